set_option maxHeartbeats 4000000 in
set_option maxRecDepth 100000 in
theorem fr_X7_no (I : Nat → Nat → Int32) (a1 : Int32) (r0 : Int32) (I0 : Nat → Nat → Int32) (h : f_X7_no I a1 = some (r0, I0)) : Fc pR I I0 := by
  have fI : Fc pR I I := Fc_rf
  rw [f_X7_no] at h
  obtain ⟨I1, eI1, h⟩ := bd_e h
  have fI1 : Fc pR I I1 := by rw [eI1]; exact Fc_up fI (show ¬ 318 < 318 by decide)
  cases h; exact fI1
set_option maxHeartbeats 4000000 in
set_option maxRecDepth 100000 in
theorem fr_X7_about (I : Nat → Nat → Int32) (A : Nat → Nat → Int32) (a1 : Int32) (a2 : Int32) (a3 : Int32) (r0 : Int32) (I0 : Nat → Nat → Int32) (h : f_X7_about I A a1 a2 a3 = some (r0, I0)) : Fc pR I I0 := by
  have fI : Fc pR I I := Fc_rf
  have fA : Fc pR A A := Fc_rf
  rw [f_X7_about] at h
  obtain ⟨I1, eI1, h⟩ := bd_e h
  have fI1 : Fc pR I I1 := by rw [eI1]; exact Fc_up fI (show ¬ 318 < 318 by decide)
  obtain ⟨I2, eI2, h⟩ := bd_e h
  have fI2 : Fc pR I I2 := by rw [eI2]; exact Fc_up fI1 (show ¬ 318 < 318 by decide)
  obtain ⟨r3, hc4, h⟩ := Option.bind_eq_some_iff.mp h
  by_cases c_5 : r3 = 0
  · have h := ip c_5 h
    obtain ⟨⟨r6, I7⟩, hc8, h⟩ := Option.bind_eq_some_iff.mp h
    have fI7 : Fc pR I I7 := Fc_tr fI2 (fr_X7_no I2 (-1) r6 I7 hc8)
    cases h; exact fI7
  · have h := iN c_5 h
    obtain ⟨r9, hc10, h⟩ := Option.bind_eq_some_iff.mp h
    by_cases c_11 : r9 = 0
    · have h := ip c_11 h
      obtain ⟨⟨r38, I39⟩, hc40, h⟩ := Option.bind_eq_some_iff.mp h
      have fI39 : Fc pR I I39 := Fc_tr fI2 (fr_X7_no I2 (-1) r38 I39 hc40)
      cases h; exact fI39
    · have h := iN c_11 h
      by_cases c_12 : a2 = 0
      · have h := ip c_12 h
        obtain ⟨hn37, h⟩ := gk h
        cases h; exact fI2
      · have h := iN c_12 h
        by_cases c_13 : a2 = 1
        · have h := ip c_13 h
          obtain ⟨hn36, h⟩ := gk h
          cases h; exact fI2
        · have h := iN c_13 h
          by_cases c_14 : a2 < 5
          · have h := ip c_14 h
            obtain ⟨r25, hc26, h⟩ := Option.bind_eq_some_iff.mp h
            by_cases c_27 : r25 = 0
            · have h := ip c_27 h
              obtain ⟨⟨r33, I34⟩, hc35, h⟩ := Option.bind_eq_some_iff.mp h
              have fI34 : Fc pR I I34 := Fc_tr fI2 (fr_X7_no I2 (-1) r33 I34 hc35)
              cases h; exact fI34
            · have h := iN c_27 h
              by_cases c_28 : a2 = 2
              · have h := ip c_28 h
                obtain ⟨hn32, h⟩ := gk h
                cases h; exact fI2
              · have h := iN c_28 h
                by_cases c_29 : a2 = 3
                · have h := ip c_29 h
                  obtain ⟨hn31, h⟩ := gk h
                  cases h; exact fI2
                · have h := iN c_29 h
                  obtain ⟨hn30, h⟩ := gk h
                  cases h; exact fI2
          · have h := iN c_14 h
            obtain ⟨hn15, h⟩ := gk h
            obtain ⟨r16, hc17, h⟩ := Option.bind_eq_some_iff.mp h
            by_cases c_18 : r16 = 0
            · have h := ip c_18 h
              obtain ⟨⟨r22, I23⟩, hc24, h⟩ := Option.bind_eq_some_iff.mp h
              have fI23 : Fc pR I I23 := Fc_tr fI2 (fr_X7_no I2 (-1) r22 I23 hc24)
              cases h; exact fI23
            · have h := iN c_18 h
              by_cases c_19 : a2 = 5
              · have h := ip c_19 h
                obtain ⟨hn21, h⟩ := gk h
                cases h; exact fI2
              · have h := iN c_19 h
                obtain ⟨hn20, h⟩ := gk h
                cases h; exact fI2
set_option maxHeartbeats 4000000 in
set_option maxRecDepth 100000 in
theorem fr_X7_addNode (I : Nat → Nat → Int32) (A : Nat → Nat → Int32) (a1 : Int32) (a2 : Int32) (I0 : Nat → Nat → Int32) (A0 : Nat → Nat → Int32) (h : f_X7_addNode I A a1 a2 = some (I0, A0)) : Fc pR I I0 ∧ Fc pR A A0 := by
  have fI : Fc pR I I := Fc_rf
  have fA : Fc pR A A := Fc_rf
  rw [f_X7_addNode] at h
  obtain ⟨I1, eI1, h⟩ := bd_e h
  have fI1 : Fc pR I I1 := by rw [eI1]; exact Fc_up fI (show ¬ 318 < 318 by decide)
  obtain ⟨hn2, h⟩ := gk h
  obtain ⟨A3, eA3, h⟩ := bd_e h
  have fA3 : Fc pR A A3 := by rw [eA3]; exact Fc_up fA (show ¬ 338 < 318 by decide)
  obtain ⟨A4, eA4, h⟩ := bd_e h
  have fA4 : Fc pR A A4 := by rw [eA4]; exact Fc_up fA3 (show ¬ 342 < 318 by decide)
  obtain ⟨A5, eA5, h⟩ := bd_e h
  have fA5 : Fc pR A A5 := by rw [eA5]; exact Fc_up fA4 (show ¬ 341 < 318 by decide)
  obtain ⟨A6, eA6, h⟩ := bd_e h
  have fA6 : Fc pR A A6 := by rw [eA6]; exact Fc_up fA5 (show ¬ 343 < 318 by decide)
  obtain ⟨A7, eA7, h⟩ := bd_e h
  have fA7 : Fc pR A A7 := by rw [eA7]; exact Fc_up fA6 (show ¬ 344 < 318 by decide)
  obtain ⟨A8, eA8, h⟩ := bd_e h
  have fA8 : Fc pR A A8 := by rw [eA8]; exact Fc_up fA7 (show ¬ 345 < 318 by decide)
  obtain ⟨A9, eA9, h⟩ := bd_e h
  have fA9 : Fc pR A A9 := by rw [eA9]; exact Fc_up fA8 (show ¬ 349 < 318 by decide)
  obtain ⟨k15, ek15, h⟩ := bd_e h
  have kk15 : ∀ (v16 : Int32) (v17 : Int32) (A18 : Nat → Nat → Int32), k15 v16 v17 A18 = some (I0, A0) → Fc pR A A18 → Fc pR I I0 ∧ Fc pR A A0 := by
    intro v16 v17 A18 h fA18
    subst ek15
    obtain ⟨hn19, h⟩ := gk h
    obtain ⟨A20, eA20, h⟩ := bd_e h
    have fA20 : Fc pR A A20 := by rw [eA20]; exact Fc_up fA18 (show ¬ 340 < 318 by decide)
    cases h; exact ⟨fI1, fA20⟩
  have lp10 : ∀ (n : Nat) (v11 : Int32) (v12 : Int32) (v13 : Int32) (A14 : Nat → Nat → Int32), f_X7_addNode_L74 a1 I1 k15 n v11 v12 v13 A14 = some (I0, A0) → Fc pR A A14 → Fc pR I I0 ∧ Fc pR A A0 := by
    intro n
    induction n with
    | zero => intro v11 v12 v13 A14 h; exact absurd h (by rw [f_X7_addNode_L74]; exact nofun)
    | succ n ih10 =>
      intro v11 v12 v13 A14 h fA14
      rw [f_X7_addNode_L74] at h
      by_cases c_21 : v11 < 6
      · have h := ip c_21 h
        obtain ⟨j24, ej24, h⟩ := bd_e h
        have kj24 : ∀ (z23 : Int32), j24 z23 = some (I0, A0) → Fc pR I I0 ∧ Fc pR A A0 := by
          intro z23 h
          subst ej24
          obtain ⟨hn25, h⟩ := gk h
          obtain ⟨A26, eA26, h⟩ := bd_e h
          have fA26 : Fc pR A A26 := by rw [eA26]; exact Fc_up fA14 (show ¬ 339 < 318 by decide)
          by_cases c_27 : v11 < a1
          · have h := ip c_27 h
            obtain ⟨hn28, h⟩ := gk h
            exact ih10 (v11 + 1) ((7 * v12) + ((A26 364 v11.toNatClampNeg) + 1)) v13 A26 h fA26
          · have h := iN c_27 h
            exact ih10 (v11 + 1) ((7 * v12) + 0) v13 A26 h fA26
        by_cases c_29 : v11 < a1
        · have h := ip c_29 h
          obtain ⟨hn30, h⟩ := gk h
          exact kj24 (A14 364 v11.toNatClampNeg) h
        · have h := iN c_29 h
          exact kj24 (-9) h
      · have h := iN c_21 h
        exact kk15 v13 v12 A14 h fA14
  exact lp10 FU 0 0 (I 318 29) A9 h fA9
set_option maxHeartbeats 4000000 in
set_option maxRecDepth 100000 in
theorem fr_X7_answer (I : Nat → Nat → Int32) (A : Nat → Nat → Int32) (a1 : Int32) (a2 : Int32) (r0 : Int32) (I0 : Nat → Nat → Int32) (h : f_X7_answer I A a1 a2 = some (r0, I0)) : Fc pR I I0 := by
  have fI : Fc pR I I := Fc_rf
  have fA : Fc pR A A := Fc_rf
  rw [f_X7_answer] at h
  obtain ⟨I1, eI1, h⟩ := bd_e h
  have fI1 : Fc pR I I1 := by rw [eI1]; exact Fc_up fI (show ¬ 318 < 318 by decide)
  obtain ⟨r2, hc3, h⟩ := Option.bind_eq_some_iff.mp h
  by_cases c_4 : r2 = 0
  · have h := ip c_4 h
    cases h; exact fI1
  · have h := iN c_4 h
    obtain ⟨hn5, h⟩ := gk h
    obtain ⟨r6, hc7, h⟩ := Option.bind_eq_some_iff.mp h
    by_cases c_8 : r6 = 0
    · have h := ip c_8 h
      cases h; exact fI1
    · have h := iN c_8 h
      by_cases c_9 : (A 352 a1.toNatClampNeg) = 0
      · have h := ip c_9 h
        cases h; exact fI1
      · have h := iN c_9 h
        obtain ⟨hn10, h⟩ := gk h
        cases h; exact fI1
set_option maxHeartbeats 4000000 in
set_option maxRecDepth 100000 in
theorem fr_X7_swap (A : Nat → Nat → Int32) (s0 : Nat) (s1 : Nat) (A0 : Nat → Nat → Int32) (h : f_X7_swap A s0 s1 = some A0) : Fc pR A A0 := by
  have fA : Fc pR A A := Fc_rf
  rw [f_X7_swap] at h
  obtain ⟨k4, ek4, h⟩ := bd_e h
  have kk4 : ∀ (A5 : Nat → Nat → Int32), k4 A5 = some A0 → Fc pR A A5 → Fc pR A A0 := by
    intro A5 h fA5
    subst ek4
    cases h; exact fA5
  have lp1 : ∀ (n : Nat) (v2 : Int32) (A3 : Nat → Nat → Int32), f_X7_swap_L2 s0 s1 k4 n v2 A3 = some A0 → Fc pR A A3 → Fc pR A A0 := by
    intro n
    induction n with
    | zero => intro v2 A3 h; exact absurd h (by rw [f_X7_swap_L2]; exact nofun)
    | succ n ih1 =>
      intro v2 A3 h fA3
      rw [f_X7_swap_L2] at h
      obtain ⟨hk6, h⟩ := gk h
      by_cases c_7 : v2 < (nI (ln s0))
      · have h := ip c_7 h
        obtain ⟨hn8, h⟩ := gk h
        obtain ⟨hk9, h⟩ := gk h
        obtain ⟨hn10, h⟩ := gk h
        obtain ⟨A11, eA11, h⟩ := bd_e h
        have fA11 : Fc pR A A11 := by rw [eA11]; exact Fc_up fA3 (Nat.not_lt.mpr hk6.1.2)
        obtain ⟨A12, eA12, h⟩ := bd_e h
        have fA12 : Fc pR A A12 := by rw [eA12]; exact Fc_up fA11 (Nat.not_lt.mpr hk9.1.2)
        exact ih1 (v2 + 1) A12 h fA12
      · have h := iN c_7 h
        exact kk4 A3 h fA3
  exact lp1 FU 0 A h fA
set_option maxHeartbeats 4000000 in
set_option maxRecDepth 100000 in
theorem fr_X7_turnRound (A : Nat → Nat → Int32) (s0 : Nat) (s1 : Nat) (A0 : Nat → Nat → Int32) (h : f_X7_turnRound A s0 s1 = some A0) : Fc pR A A0 := by
  have fA : Fc pR A A := Fc_rf
  rw [f_X7_turnRound] at h
  obtain ⟨k4, ek4, h⟩ := bd_e h
  have kk4 : ∀ (A5 : Nat → Nat → Int32), k4 A5 = some A0 → Fc pR A A5 → Fc pR A A0 := by
    intro A5 h fA5
    subst ek4
    cases h; exact fA5
  have lp1 : ∀ (n : Nat) (v2 : Int32) (A3 : Nat → Nat → Int32), f_X7_turnRound_L2 s0 s1 k4 n v2 A3 = some A0 → Fc pR A A3 → Fc pR A A0 := by
    intro n
    induction n with
    | zero => intro v2 A3 h; exact absurd h (by rw [f_X7_turnRound_L2]; exact nofun)
    | succ n ih1 =>
      intro v2 A3 h fA3
      rw [f_X7_turnRound_L2] at h
      obtain ⟨hk6, h⟩ := gk h
      by_cases c_7 : v2 < (nI (ln s0))
      · have h := ip c_7 h
        obtain ⟨hn8, h⟩ := gk h
        obtain ⟨hk9, h⟩ := gk h
        obtain ⟨hn10, h⟩ := gk h
        obtain ⟨A11, eA11, h⟩ := bd_e h
        have fA11 : Fc pR A A11 := by rw [eA11]; exact Fc_up fA3 (Nat.not_lt.mpr hk6.1.2)
        obtain ⟨A12, eA12, h⟩ := bd_e h
        have fA12 : Fc pR A A12 := by rw [eA12]; exact Fc_up fA11 (Nat.not_lt.mpr hk9.1.2)
        exact ih1 (v2 + 1) A12 h fA12
      · have h := iN c_7 h
        exact kk4 A3 h fA3
  exact lp1 FU 0 A h fA
set_option maxHeartbeats 4000000 in
set_option maxRecDepth 100000 in
theorem fr_X7_aside (I : Nat → Nat → Int32) (A : Nat → Nat → Int32) (I0 : Nat → Nat → Int32) (A0 : Nat → Nat → Int32) (h : f_X7_aside I A = some (I0, A0)) : Fc pR I I0 ∧ Fc pR A A0 := by
  have fI : Fc pR I I := Fc_rf
  have fA : Fc pR A A := Fc_rf
  rw [f_X7_aside] at h
  obtain ⟨I1, eI1, h⟩ := bd_e h
  have fI1 : Fc pR I I1 := by rw [eI1]; exact Fc_up fI (show ¬ 318 < 318 by decide)
  obtain ⟨I2, eI2, h⟩ := bd_e h
  have fI2 : Fc pR I I2 := by rw [eI2]; exact Fc_up fI1 (show ¬ 318 < 318 by decide)
  obtain ⟨I3, eI3, h⟩ := bd_e h
  have fI3 : Fc pR I I3 := by rw [eI3]; exact Fc_up fI2 (show ¬ 318 < 318 by decide)
  obtain ⟨A4, eA4, h⟩ := bd_e h
  have fA4 : Fc pR A A4 := by rw [eA4]; exact Fc_up fA (show ¬ 365 < 318 by decide)
  obtain ⟨A5, eA5, h⟩ := bd_e h
  have fA5 : Fc pR A A5 := by rw [eA5]; exact Fc_up fA4 (show ¬ 365 < 318 by decide)
  obtain ⟨A6, eA6, h⟩ := bd_e h
  have fA6 : Fc pR A A6 := by rw [eA6]; exact Fc_up fA5 (show ¬ 365 < 318 by decide)
  obtain ⟨A7, hc8, h⟩ := Option.bind_eq_some_iff.mp h
  have fA7 : Fc pR A A7 := Fc_tr fA6 (fr_X7_swap A6 338 366 A7 hc8)
  obtain ⟨A9, hc10, h⟩ := Option.bind_eq_some_iff.mp h
  have fA9 : Fc pR A A9 := Fc_tr fA7 (fr_X7_swap A7 339 367 A9 hc10)
  obtain ⟨A11, hc12, h⟩ := Option.bind_eq_some_iff.mp h
  have fA11 : Fc pR A A11 := Fc_tr fA9 (fr_X7_swap A9 340 368 A11 hc12)
  obtain ⟨A13, hc14, h⟩ := Option.bind_eq_some_iff.mp h
  have fA13 : Fc pR A A13 := Fc_tr fA11 (fr_X7_swap A11 341 369 A13 hc14)
  obtain ⟨A15, hc16, h⟩ := Option.bind_eq_some_iff.mp h
  have fA15 : Fc pR A A15 := Fc_tr fA13 (fr_X7_swap A13 342 370 A15 hc16)
  obtain ⟨A17, hc18, h⟩ := Option.bind_eq_some_iff.mp h
  have fA17 : Fc pR A A17 := Fc_tr fA15 (fr_X7_swap A15 343 371 A17 hc18)
  obtain ⟨A19, hc20, h⟩ := Option.bind_eq_some_iff.mp h
  have fA19 : Fc pR A A19 := Fc_tr fA17 (fr_X7_turnRound A17 344 372 A19 hc20)
  obtain ⟨A21, hc22, h⟩ := Option.bind_eq_some_iff.mp h
  have fA21 : Fc pR A A21 := Fc_tr fA19 (fr_X7_turnRound A19 345 373 A21 hc22)
  obtain ⟨A23, hc24, h⟩ := Option.bind_eq_some_iff.mp h
  have fA23 : Fc pR A A23 := Fc_tr fA21 (fr_X7_swap A21 346 374 A23 hc24)
  obtain ⟨A25, hc26, h⟩ := Option.bind_eq_some_iff.mp h
  have fA25 : Fc pR A A25 := Fc_tr fA23 (fr_X7_swap A23 347 375 A25 hc26)
  obtain ⟨A27, hc28, h⟩ := Option.bind_eq_some_iff.mp h
  have fA27 : Fc pR A A27 := Fc_tr fA25 (fr_X7_swap A25 348 376 A27 hc28)
  obtain ⟨A29, hc30, h⟩ := Option.bind_eq_some_iff.mp h
  have fA29 : Fc pR A A29 := Fc_tr fA27 (fr_X7_swap A27 349 377 A29 hc30)
  cases h; exact ⟨fI3, fA29⟩
set_option maxHeartbeats 4000000 in
set_option maxRecDepth 100000 in
theorem fr_X7_ask (I : Nat → Nat → Int32) (A : Nat → Nat → Int32) (a1 : Int32) (r0 : Int32) (I0 : Nat → Nat → Int32) (h : f_X7_ask I A a1 = some (r0, I0)) : Fc pR I I0 := by
  have fI : Fc pR I I := Fc_rf
  have fA : Fc pR A A := Fc_rf
  rw [f_X7_ask] at h
  obtain ⟨I1, eI1, h⟩ := bd_e h
  have fI1 : Fc pR I I1 := by rw [eI1]; exact Fc_up fI (show ¬ 318 < 318 by decide)
  obtain ⟨r2, hc3, h⟩ := Option.bind_eq_some_iff.mp h
  by_cases c_4 : r2 = 0
  · have h := ip c_4 h
    cases h; exact fI1
  · have h := iN c_4 h
    obtain ⟨I5, eI5, h⟩ := bd_e h
    have fI5 : Fc pR I I5 := by rw [eI5]; exact Fc_up fI1 (show ¬ 318 < 318 by decide)
    obtain ⟨hn6, h⟩ := gk h
    obtain ⟨I7, eI7, h⟩ := bd_e h
    have fI7 : Fc pR I I7 := by rw [eI7]; exact Fc_up fI5 (show ¬ 318 < 318 by decide)
    obtain ⟨I8, eI8, h⟩ := bd_e h
    have fI8 : Fc pR I I8 := by rw [eI8]; exact Fc_up fI7 (show ¬ 318 < 318 by decide)
    cases h; exact fI8
set_option maxHeartbeats 4000000 in
set_option maxRecDepth 100000 in
theorem fr_X7_isOut (A : Nat → Nat → Int32) (a1 : Int32) (a2 : Int32) (a3 : Int32) (r0 : Int32) (A0 : Nat → Nat → Int32) (h : f_X7_isOut A a1 a2 a3 = some (r0, A0)) : Fc pR A A0 := by
  have fA : Fc pR A A := Fc_rf
  rw [f_X7_isOut] at h
  obtain ⟨hn1, h⟩ := gk h
  obtain ⟨A2, eA2, h⟩ := bd_e h
  have fA2 : Fc pR A A2 := by rw [eA2]; exact Fc_up fA (show ¬ 364 < 318 by decide)
  obtain ⟨r3, hc4, h⟩ := Option.bind_eq_some_iff.mp h
  by_cases c_5 : r3 = (-9)
  · have h := ip c_5 h
    obtain ⟨A6, eA6, h⟩ := bd_e h
    have fA6 : Fc pR A A6 := by rw [eA6]; exact Fc_up fA2 (show ¬ 364 < 318 by decide)
    cases h; exact fA6
  · have h := iN c_5 h
    obtain ⟨A7, eA7, h⟩ := bd_e h
    have fA7 : Fc pR A A7 := by rw [eA7]; exact Fc_up fA2 (show ¬ 364 < 318 by decide)
    cases h; exact fA7
set_option maxHeartbeats 4000000 in
set_option maxRecDepth 100000 in
theorem fr_X7_whatIs (I : Nat → Nat → Int32) (A : Nat → Nat → Int32) (a1 : Int32) (a2 : Int32) (a3 : Int32) (r0 : Int32) (I0 : Nat → Nat → Int32) (A0 : Nat → Nat → Int32) (h : f_X7_whatIs I A a1 a2 a3 = some (r0, I0, A0)) : Fc pR I I0 ∧ Fc pR A A0 := by
  have fI : Fc pR I I := Fc_rf
  have fA : Fc pR A A := Fc_rf
  rw [f_X7_whatIs] at h
  obtain ⟨r1, hc2, h⟩ := Option.bind_eq_some_iff.mp h
  obtain ⟨I3, eI3, h⟩ := bd_e h
  have fI3 : Fc pR I I3 := by rw [eI3]; exact Fc_up fI (show ¬ 318 < 318 by decide)
  by_cases c_4 : (I3 318 64) = (-9)
  · have h := ip c_4 h
    obtain ⟨k7, ek7, h⟩ := bd_e h
    have kk7 : ∀ (v8 : Int32), k7 v8 = some (r0, I0, A0) → Fc pR I I0 ∧ Fc pR A A0 := by
      intro v8 h
      subst ek7
      obtain ⟨I9, eI9, h⟩ := bd_e h
      have fI9 : Fc pR I I9 := by rw [eI9]; exact Fc_up fI3 (show ¬ 318 < 318 by decide)
      cases h; exact ⟨fI9, fA⟩
    obtain ⟨k10, ek10, h⟩ := bd_e h
    have kk10 : ∀ (_ : Unit), k10 () = some (r0, I0, A0) → Fc pR I I0 ∧ Fc pR A A0 := by
      intro _ h
      subst ek10
      obtain ⟨I11, eI11, h⟩ := bd_e h
      have fI11 : Fc pR I I11 := by rw [eI11]; exact Fc_up fI3 (show ¬ 318 < 318 by decide)
      obtain ⟨k16, ek16, h⟩ := bd_e h
      have kk16 : ∀ (v17 : Int32) (I18 : Nat → Nat → Int32) (A19 : Nat → Nat → Int32), k16 v17 I18 A19 = some (r0, I0, A0) → Fc pR I I18 → Fc pR A A19 → Fc pR I I0 ∧ Fc pR A A0 := by
        intro v17 I18 A19 h fI18 fA19
        subst ek16
        obtain ⟨I20, eI20, h⟩ := bd_e h
        have fI20 : Fc pR I I20 := by rw [eI20]; exact Fc_up fI18 (show ¬ 318 < 318 by decide)
        cases h; exact ⟨fI20, fA19⟩
      obtain ⟨k21, ek21, h⟩ := bd_e h
      have kk21 : ∀ (I22 : Nat → Nat → Int32) (A23 : Nat → Nat → Int32), k21 I22 A23 = some (r0, I0, A0) → Fc pR I I22 → Fc pR A A23 → Fc pR I I0 ∧ Fc pR A A0 := by
        intro I22 A23 h fI22 fA23
        subst ek21
        cases h; exact ⟨fI22, fA23⟩
      have lp12 : ∀ (n : Nat) (v13 : Int32) (I14 : Nat → Nat → Int32) (A15 : Nat → Nat → Int32), f_X7_whatIs_L88 a1 a2 k16 k21 n v13 I14 A15 = some (r0, I0, A0) → Fc pR I I14 → Fc pR A A15 → Fc pR I I0 ∧ Fc pR A A0 := by
        intro n
        induction n with
        | zero => intro v13 I14 A15 h; exact absurd h (by rw [f_X7_whatIs_L88]; exact nofun)
        | succ n ih12 =>
          intro v13 I14 A15 h fI14 fA15
          rw [f_X7_whatIs_L88] at h
          obtain ⟨hn24, h⟩ := gk h
          by_cases c_25 : v13 < (A15 319 a1.toNatClampNeg)
          · have h := ip c_25 h
            by_cases c_26 : v13 < a2
            · have h := ip c_26 h
              obtain ⟨hn50, h⟩ := gk h
              obtain ⟨r51, hc52, h⟩ := Option.bind_eq_some_iff.mp h
              obtain ⟨I53, eI53, h⟩ := bd_e h
              have fI53 : Fc pR I I53 := by rw [eI53]; exact Fc_up fI14 (show ¬ 318 < 318 by decide)
              exact ih12 (v13 + 1) I53 A15 h fI53 fA15
            · have h := iN c_26 h
              obtain ⟨k31, ek31, h⟩ := bd_e h
              have kk31 : ∀ (v32 : Int32) (A33 : Nat → Nat → Int32), k31 v32 A33 = some (r0, I0, A0) → Fc pR A A33 → Fc pR I I0 ∧ Fc pR A A0 := by
                intro v32 A33 h fA33
                subst ek31
                by_cases c_34 : v32 = (-9)
                · have h := ip c_34 h
                  exact kk16 v13 I14 A33 h fI14 fA33
                · have h := iN c_34 h
                  obtain ⟨r35, hc36, h⟩ := Option.bind_eq_some_iff.mp h
                  obtain ⟨I37, eI37, h⟩ := bd_e h
                  have fI37 : Fc pR I I37 := by rw [eI37]; exact Fc_up fI14 (show ¬ 318 < 318 by decide)
                  exact ih12 (v13 + 1) I37 A33 h fI37 fA33
              have lp27 : ∀ (n : Nat) (v28 : Int32) (v29 : Int32) (A30 : Nat → Nat → Int32), f_X7_whatIs_L138 v13 a1 a2 I14 k31 n v28 v29 A30 = some (r0, I0, A0) → Fc pR A A30 → Fc pR I I0 ∧ Fc pR A A0 := by
                intro n
                induction n with
                | zero => intro v28 v29 A30 h; exact absurd h (by rw [f_X7_whatIs_L138]; exact nofun)
                | succ n ih27 =>
                  intro v28 v29 A30 h fA30
                  rw [f_X7_whatIs_L138] at h
                  obtain ⟨hn38, h⟩ := gk h
                  by_cases c_39 : v28 < (A30 321 (((6 * a1) + v13).toNatClampNeg))
                  · have h := ip c_39 h
                    obtain ⟨⟨r40, A41⟩, hc42, h⟩ := Option.bind_eq_some_iff.mp h
                    have fA41 : Fc pR A A41 := Fc_tr fA30 (fr_X7_isOut A30 a1 v13 v28 r40 A41 hc42)
                    by_cases c_43 : r40 = 0
                    · have h := ip c_43 h
                      by_cases c_44 : v29 = (-9)
                      · have h := ip c_44 h
                        exact ih27 (v28 + 1) v28 A41 h fA41
                      · have h := iN c_44 h
                        obtain ⟨r45, hc46, h⟩ := Option.bind_eq_some_iff.mp h
                        obtain ⟨r47, hc48, h⟩ := Option.bind_eq_some_iff.mp h
                        by_cases c_49 : r45 < r47
                        · have h := ip c_49 h
                          exact ih27 (v28 + 1) v28 A41 h fA41
                        · have h := iN c_49 h
                          exact ih27 (v28 + 1) v29 A41 h fA41
                    · have h := iN c_43 h
                      exact ih27 (v28 + 1) v29 A41 h fA41
                  · have h := iN c_39 h
                    exact kk31 v29 A30 h fA30
              exact lp27 FU 0 (-9) A15 h fA15
          · have h := iN c_25 h
            exact kk21 I14 A15 h fI14 fA15
      exact lp12 FU 0 I11 A h fI11 fA
    have lp5 : ∀ (n : Nat) (v6 : Int32), f_X7_whatIs_L23 a1 a2 a3 I3 A k7 k10 n v6 = some (r0, I0, A0) → Fc pR I I0 ∧ Fc pR A A0 := by
      intro n
      induction n with
      | zero => intro v6 h; exact absurd h (by rw [f_X7_whatIs_L23]; exact nofun)
      | succ n ih5 =>
        intro v6 h
        rw [f_X7_whatIs_L23] at h
        by_cases c_54 : (v6 + 1) < a2
        · have h := ip c_54 h
          by_cases c_55 : a3 = 0
          · have h := ip c_55 h
            exact kk10 () h
          · have h := iN c_55 h
            obtain ⟨hn56, h⟩ := gk h
            obtain ⟨hn57, h⟩ := gk h
            by_cases c_58 : (A 364 ((a2 - 1).toNatClampNeg)) < (A 364 v6.toNatClampNeg)
            · have h := ip c_58 h
              obtain ⟨r59, hc60, h⟩ := Option.bind_eq_some_iff.mp h
              by_cases c_61 : r59 = 0
              · have h := ip c_61 h
                exact ih5 (v6 + 1) h
              · have h := iN c_61 h
                exact kk7 v6 h
            · have h := iN c_58 h
              exact ih5 (v6 + 1) h
        · have h := iN c_54 h
          exact kk10 () h
    exact lp5 FU 0 h
  · have h := iN c_4 h
    cases h; exact ⟨fI3, fA⟩
set_option maxHeartbeats 4000000 in
set_option maxRecDepth 100000 in
theorem fr_X7_begins (I : Nat → Nat → Int32) (A : Nat → Nat → Int32) (a1 : Int32) (a2 : Int32) (I0 : Nat → Nat → Int32) (A0 : Nat → Nat → Int32) (h : f_X7_begins I A a1 a2 = some (I0, A0)) : Fc pR I I0 ∧ Fc pR A A0 := by
  have fI : Fc pR I I := Fc_rf
  have fA : Fc pR A A := Fc_rf
  rw [f_X7_begins] at h
  obtain ⟨I1, eI1, h⟩ := bd_e h
  have fI1 : Fc pR I I1 := by rw [eI1]; exact Fc_up fI (show ¬ 318 < 318 by decide)
  obtain ⟨I2, eI2, h⟩ := bd_e h
  have fI2 : Fc pR I I2 := by rw [eI2]; exact Fc_up fI1 (show ¬ 318 < 318 by decide)
  obtain ⟨I3, eI3, h⟩ := bd_e h
  have fI3 : Fc pR I I3 := by rw [eI3]; exact Fc_up fI2 (show ¬ 318 < 318 by decide)
  obtain ⟨k7, ek7, h⟩ := bd_e h
  have kk7 : ∀ (A8 : Nat → Nat → Int32), k7 A8 = some (I0, A0) → Fc pR A A8 → Fc pR I I0 ∧ Fc pR A A0 := by
    intro A8 h fA8
    subst ek7
    obtain ⟨⟨r9, I10, A11⟩, hc12, h⟩ := Option.bind_eq_some_iff.mp h
    have fI10 : Fc pR I I10 := Fc_tr fI3 (fr_X7_whatIs I3 A8 a1 0 a2 r9 I10 A11 hc12).1
    have fA11 : Fc pR A A11 := Fc_tr fA8 (fr_X7_whatIs I3 A8 a1 0 a2 r9 I10 A11 hc12).2
    by_cases c_13 : r9 = 0
    · have h := ip c_13 h
      obtain ⟨⟨I14, A15⟩, hc16, h⟩ := Option.bind_eq_some_iff.mp h
      have fI14 : Fc pR I I14 := Fc_tr fI10 (fr_X7_addNode I10 A11 0 (-9) I14 A15 hc16).1
      have fA15 : Fc pR A A15 := Fc_tr fA11 (fr_X7_addNode I10 A11 0 (-9) I14 A15 hc16).2
      cases h; exact ⟨fI14, fA15⟩
    · have h := iN c_13 h
      cases h; exact ⟨fI10, fA11⟩
  have lp4 : ∀ (n : Nat) (v5 : Int32) (A6 : Nat → Nat → Int32), f_X7_begins_L17 a1 a2 I3 k7 n v5 A6 = some (I0, A0) → Fc pR A A6 → Fc pR I I0 ∧ Fc pR A A0 := by
    intro n
    induction n with
    | zero => intro v5 A6 h; exact absurd h (by rw [f_X7_begins_L17]; exact nofun)
    | succ n ih4 =>
      intro v5 A6 h fA6
      rw [f_X7_begins_L17] at h
      by_cases c_17 : v5 < 6
      · have h := ip c_17 h
        obtain ⟨hn18, h⟩ := gk h
        obtain ⟨A19, eA19, h⟩ := bd_e h
        have fA19 : Fc pR A A19 := by rw [eA19]; exact Fc_up fA6 (show ¬ 364 < 318 by decide)
        exact ih4 (v5 + 1) A19 h fA19
      · have h := iN c_17 h
        exact kk7 A6 h fA6
  exact lp4 FU 0 A h fA
set_option maxHeartbeats 4000000 in
set_option maxRecDepth 100000 in
theorem fr_X7_changes (I : Nat → Nat → Int32) (A : Nat → Nat → Int32) (a1 : Int32) (I0 : Nat → Nat → Int32) (A0 : Nat → Nat → Int32) (h : f_X7_changes I A a1 = some (I0, A0)) : Fc pR I I0 ∧ Fc pR A A0 := by
  have fI : Fc pR I I := Fc_rf
  have fA : Fc pR A A := Fc_rf
  rw [f_X7_changes] at h
  obtain ⟨I1, eI1, h⟩ := bd_e h
  have fI1 : Fc pR I I1 := by rw [eI1]; exact Fc_up fI (show ¬ 318 < 318 by decide)
  obtain ⟨hn2, h⟩ := gk h
  obtain ⟨A3, eA3, h⟩ := bd_e h
  have fA3 : Fc pR A A3 := by rw [eA3]; exact Fc_up fA (show ¬ 329 < 318 by decide)
  obtain ⟨A4, eA4, h⟩ := bd_e h
  have fA4 : Fc pR A A4 := by rw [eA4]; exact Fc_up fA3 (show ¬ 351 < 318 by decide)
  obtain ⟨A5, eA5, h⟩ := bd_e h
  have fA5 : Fc pR A A5 := by rw [eA5]; exact Fc_up fA4 (show ¬ 352 < 318 by decide)
  cases h; exact ⟨fI1, fA5⟩
set_option maxHeartbeats 4000000 in
set_option maxRecDepth 100000 in
theorem fr_X7_closed (I : Nat → Nat → Int32) (A : Nat → Nat → Int32) (a1 : Int32) (a2 : Int32) (a3 : Int32) (r0 : Int32) (I0 : Nat → Nat → Int32) (h : f_X7_closed I A a1 a2 a3 = some (r0, I0)) : Fc pR I I0 := by
  have fI : Fc pR I I := Fc_rf
  have fA : Fc pR A A := Fc_rf
  rw [f_X7_closed] at h
  obtain ⟨I1, eI1, h⟩ := bd_e h
  have fI1 : Fc pR I I1 := by rw [eI1]; exact Fc_up fI (show ¬ 318 < 318 by decide)
  obtain ⟨r2, hc3, h⟩ := Option.bind_eq_some_iff.mp h
  by_cases c_4 : r2 = 0
  · have h := ip c_4 h
    cases h; exact fI1
  · have h := iN c_4 h
    obtain ⟨r5, hc6, h⟩ := Option.bind_eq_some_iff.mp h
    by_cases c_7 : r5 = 0
    · have h := ip c_7 h
      cases h; exact fI1
    · have h := iN c_7 h
      obtain ⟨hn8, h⟩ := gk h
      obtain ⟨r9, hc10, h⟩ := Option.bind_eq_some_iff.mp h
      by_cases c_11 : r9 = 0
      · have h := ip c_11 h
        cases h; exact fI1
      · have h := iN c_11 h
        by_cases c_12 : a3 = 0
        · have h := ip c_12 h
          obtain ⟨hn14, h⟩ := gk h
          cases h; exact fI1
        · have h := iN c_12 h
          obtain ⟨hn13, h⟩ := gk h
          cases h; exact fI1
set_option maxHeartbeats 4000000 in
set_option maxRecDepth 100000 in
theorem fr_X7_cost (I : Nat → Nat → Int32) (A : Nat → Nat → Int32) (a1 : Int32) (a2 : Int32) (a3 : Int32) (a4 : Int32) (r0 : Int32) (I0 : Nat → Nat → Int32) (A0 : Nat → Nat → Int32) (h : f_X7_cost I A a1 a2 a3 a4 = some (r0, I0, A0)) : Fc pR I I0 ∧ Fc pR A A0 := by
  have fI : Fc pR I I := Fc_rf
  have fA : Fc pR A A := Fc_rf
  rw [f_X7_cost] at h
  obtain ⟨I1, eI1, h⟩ := bd_e h
  have fI1 : Fc pR I I1 := by rw [eI1]; exact Fc_up fI (show ¬ 318 < 318 by decide)
  obtain ⟨I2, eI2, h⟩ := bd_e h
  have fI2 : Fc pR I I2 := by rw [eI2]; exact Fc_up fI1 (show ¬ 318 < 318 by decide)
  obtain ⟨r3, hc4, h⟩ := Option.bind_eq_some_iff.mp h
  by_cases c_5 : r3 = 0
  · have h := ip c_5 h
    obtain ⟨⟨r6, I7⟩, hc8, h⟩ := Option.bind_eq_some_iff.mp h
    have fI7 : Fc pR I I7 := Fc_tr fI2 (fr_X7_no I2 (-1) r6 I7 hc8)
    cases h; exact ⟨fI7, fA⟩
  · have h := iN c_5 h
    obtain ⟨r9, hc10, h⟩ := Option.bind_eq_some_iff.mp h
    by_cases c_11 : r9 = 0
    · have h := ip c_11 h
      obtain ⟨⟨r29, I30⟩, hc31, h⟩ := Option.bind_eq_some_iff.mp h
      have fI30 : Fc pR I I30 := Fc_tr fI2 (fr_X7_no I2 (-1) r29 I30 hc31)
      cases h; exact ⟨fI30, fA⟩
    · have h := iN c_11 h
      by_cases c_12 : (I2 318 23) = (-9)
      · have h := ip c_12 h
        obtain ⟨hn13, h⟩ := gk h
        obtain ⟨j17, ej17, h⟩ := bd_e h
        have kj17 : ∀ (z16 : Int32), j17 z16 = some (r0, I0, A0) → Fc pR I I0 ∧ Fc pR A A0 := by
          intro z16 h
          subst ej17
          obtain ⟨hn18, h⟩ := gk h
          obtain ⟨A19, eA19, h⟩ := bd_e h
          have fA19 : Fc pR A A19 := by rw [eA19]; exact Fc_up fA (show ¬ 323 < 318 by decide)
          obtain ⟨⟨I20, A21⟩, hc22, h⟩ := Option.bind_eq_some_iff.mp h
          have fI20 : Fc pR I I20 := Fc_tr fI2 (fr_X7_changes I2 A19 a1 I20 A21 hc22).1
          have fA21 : Fc pR A A21 := Fc_tr fA19 (fr_X7_changes I2 A19 a1 I20 A21 hc22).2
          cases h; exact ⟨fI20, fA21⟩
        by_cases c_23 : (A 322 (((6 * a1) + a2).toNatClampNeg)) = 0
        · have h := ip c_23 h
          exact kj17 a4.toInt8.toInt32 h
        · have h := iN c_23 h
          by_cases c_24 : (A 322 (((6 * a1) + a2).toNatClampNeg)) = 1
          · have h := ip c_24 h
            exact kj17 a4.toInt16.toInt32 h
          · have h := iN c_24 h
            by_cases c_25 : (A 322 (((6 * a1) + a2).toNatClampNeg)) = 2
            · have h := ip c_25 h
              exact kj17 (a4 &&& 65535) h
            · have h := iN c_25 h
              exact kj17 a4 h
      · have h := iN c_12 h
        obtain ⟨⟨r26, I27⟩, hc28, h⟩ := Option.bind_eq_some_iff.mp h
        have fI27 : Fc pR I I27 := Fc_tr fI2 (fr_X7_no I2 (-2) r26 I27 hc28)
        cases h; exact ⟨fI27, fA⟩
set_option maxHeartbeats 4000000 in
set_option maxRecDepth 100000 in
theorem fr_X7_costs (I : Nat → Nat → Int32) (A : Nat → Nat → Int32) (a1 : Int32) (a2 : Int32) (a3 : Int32) (r0 : Int32) (I0 : Nat → Nat → Int32) (h : f_X7_costs I A a1 a2 a3 = some (r0, I0)) : Fc pR I I0 := by
  have fI : Fc pR I I := Fc_rf
  have fA : Fc pR A A := Fc_rf
  rw [f_X7_costs] at h
  obtain ⟨I1, eI1, h⟩ := bd_e h
  have fI1 : Fc pR I I1 := by rw [eI1]; exact Fc_up fI (show ¬ 318 < 318 by decide)
  obtain ⟨I2, eI2, h⟩ := bd_e h
  have fI2 : Fc pR I I2 := by rw [eI2]; exact Fc_up fI1 (show ¬ 318 < 318 by decide)
  obtain ⟨r3, hc4, h⟩ := Option.bind_eq_some_iff.mp h
  by_cases c_5 : r3 = 0
  · have h := ip c_5 h
    obtain ⟨⟨r6, I7⟩, hc8, h⟩ := Option.bind_eq_some_iff.mp h
    have fI7 : Fc pR I I7 := Fc_tr fI2 (fr_X7_no I2 (-1) r6 I7 hc8)
    cases h; exact fI7
  · have h := iN c_5 h
    obtain ⟨r9, hc10, h⟩ := Option.bind_eq_some_iff.mp h
    cases h; exact fI2
set_option maxHeartbeats 4000000 in
set_option maxRecDepth 100000 in
theorem fr_X7_count (I : Nat → Nat → Int32) (a1 : Int32) (r0 : Int32) (I0 : Nat → Nat → Int32) (h : f_X7_count I a1 = some (r0, I0)) : Fc pR I I0 := by
  have fI : Fc pR I I := Fc_rf
  rw [f_X7_count] at h
  obtain ⟨I1, eI1, h⟩ := bd_e h
  have fI1 : Fc pR I I1 := by rw [eI1]; exact Fc_up fI (show ¬ 318 < 318 by decide)
  rcases sw_7 a1 with hs2 | hs2 | hs2 | hs2 | hs2 | hs2 | hs2 | hs2 | hs2
  · have h := ip hs2 h
    cases h; exact fI1
  · have h := iN (by rw [hs2]; decide) h
    have h := ip hs2 h
    cases h; exact fI1
  · have h := iN (by rw [hs2]; decide) h
    have h := iN (by rw [hs2]; decide) h
    have h := ip hs2 h
    cases h; exact fI1
  · have h := iN (by rw [hs2]; decide) h
    have h := iN (by rw [hs2]; decide) h
    have h := iN (by rw [hs2]; decide) h
    have h := ip hs2 h
    cases h; exact fI1
  · have h := iN (by rw [hs2]; decide) h
    have h := iN (by rw [hs2]; decide) h
    have h := iN (by rw [hs2]; decide) h
    have h := iN (by rw [hs2]; decide) h
    have h := ip hs2 h
    cases h; exact fI1
  · have h := iN (by rw [hs2]; decide) h
    have h := iN (by rw [hs2]; decide) h
    have h := iN (by rw [hs2]; decide) h
    have h := iN (by rw [hs2]; decide) h
    have h := iN (by rw [hs2]; decide) h
    have h := ip hs2 h
    by_cases c_3 : (I1 318 23) = (-9)
    · have h := ip c_3 h
      cases h; exact fI1
    · have h := iN c_3 h
      cases h; exact fI1
  · have h := iN (by rw [hs2]; decide) h
    have h := iN (by rw [hs2]; decide) h
    have h := iN (by rw [hs2]; decide) h
    have h := iN (by rw [hs2]; decide) h
    have h := iN (by rw [hs2]; decide) h
    have h := iN (by rw [hs2]; decide) h
    have h := ip hs2 h
    by_cases c_4 : (I1 318 23) = (-9)
    · have h := ip c_4 h
      cases h; exact fI1
    · have h := iN c_4 h
      cases h; exact fI1
  · have h := iN (by rw [hs2]; decide) h
    have h := iN (by rw [hs2]; decide) h
    have h := iN (by rw [hs2]; decide) h
    have h := iN (by rw [hs2]; decide) h
    have h := iN (by rw [hs2]; decide) h
    have h := iN (by rw [hs2]; decide) h
    have h := iN (by rw [hs2]; decide) h
    have h := ip hs2 h
    by_cases c_5 : (I1 318 23) = (-9)
    · have h := ip c_5 h
      cases h; exact fI1
    · have h := iN c_5 h
      cases h; exact fI1
  · have h := iN (fun q => by rw [q] at hs2; exact absurd hs2 (by decide)) h
    have h := iN (fun q => by rw [q] at hs2; exact absurd hs2 (by decide)) h
    have h := iN (fun q => by rw [q] at hs2; exact absurd hs2 (by decide)) h
    have h := iN (fun q => by rw [q] at hs2; exact absurd hs2 (by decide)) h
    have h := iN (fun q => by rw [q] at hs2; exact absurd hs2 (by decide)) h
    have h := iN (fun q => by rw [q] at hs2; exact absurd hs2 (by decide)) h
    have h := iN (fun q => by rw [q] at hs2; exact absurd hs2 (by decide)) h
    have h := iN (fun q => by rw [q] at hs2; exact absurd hs2 (by decide)) h
    cases h; exact fI1
set_option maxHeartbeats 4000000 in
set_option maxRecDepth 100000 in
theorem fr_X7_endsAs (I : Nat → Nat → Int32) (A : Nat → Nat → Int32) (a1 : Int32) (a2 : Int32) (I0 : Nat → Nat → Int32) (A0 : Nat → Nat → Int32) (h : f_X7_endsAs I A a1 a2 = some (I0, A0)) : Fc pR I I0 ∧ Fc pR A A0 := by
  have fI : Fc pR I I := Fc_rf
  have fA : Fc pR A A := Fc_rf
  rw [f_X7_endsAs] at h
  obtain ⟨r1, hc2, h⟩ := Option.bind_eq_some_iff.mp h
  obtain ⟨j5, ej5, h⟩ := bd_e h
  have kj5 : ∀ (z4 : Int32), j5 z4 = some (I0, A0) → Fc pR I I0 ∧ Fc pR A A0 := by
    intro z4 h
    subst ej5
    obtain ⟨hn6, h⟩ := gk h
    obtain ⟨A7, eA7, h⟩ := bd_e h
    have fA7 : Fc pR A A7 := by rw [eA7]; exact Fc_up fA (show ¬ 350 < 318 by decide)
    obtain ⟨hn8, h⟩ := gk h
    obtain ⟨A9, eA9, h⟩ := bd_e h
    have fA9 : Fc pR A A9 := by rw [eA9]; exact Fc_up fA7 (show ¬ 350 < 318 by decide)
    obtain ⟨hn10, h⟩ := gk h
    obtain ⟨A11, eA11, h⟩ := bd_e h
    have fA11 : Fc pR A A11 := by rw [eA11]; exact Fc_up fA9 (show ¬ 350 < 318 by decide)
    obtain ⟨hn12, h⟩ := gk h
    obtain ⟨A13, eA13, h⟩ := bd_e h
    have fA13 : Fc pR A A13 := by rw [eA13]; exact Fc_up fA11 (show ¬ 350 < 318 by decide)
    obtain ⟨j16, ej16, h⟩ := bd_e h
    have kj16 : ∀ (z15 : Int32), j16 z15 = some (I0, A0) → Fc pR I I0 ∧ Fc pR A A0 := by
      intro z15 h
      subst ej16
      obtain ⟨hn17, h⟩ := gk h
      obtain ⟨A18, eA18, h⟩ := bd_e h
      have fA18 : Fc pR A A18 := by rw [eA18]; exact Fc_up fA13 (show ¬ 350 < 318 by decide)
      obtain ⟨j23, ej23, h⟩ := bd_e h
      have kj23 : ∀ (z22 : Int32), j23 z22 = some (I0, A0) → Fc pR I I0 ∧ Fc pR A A0 := by
        intro z22 h
        subst ej23
        obtain ⟨hn24, h⟩ := gk h
        obtain ⟨A25, eA25, h⟩ := bd_e h
        have fA25 : Fc pR A A25 := by rw [eA25]; exact Fc_up fA18 (show ¬ 350 < 318 by decide)
        obtain ⟨hn26, h⟩ := gk h
        obtain ⟨A27, eA27, h⟩ := bd_e h
        have fA27 : Fc pR A A27 := by rw [eA27]; exact Fc_up fA25 (show ¬ 351 < 318 by decide)
        obtain ⟨j29, ej29, h⟩ := bd_e h
        have kj29 : ∀ (z28 : Int32), j29 z28 = some (I0, A0) → Fc pR I I0 ∧ Fc pR A A0 := by
          intro z28 h
          subst ej29
          obtain ⟨A30, eA30, h⟩ := bd_e h
          have fA30 : Fc pR A A30 := by rw [eA30]; exact Fc_up fA27 (show ¬ 352 < 318 by decide)
          obtain ⟨j41, ej41, h⟩ := bd_e h
          have kj41 : ∀ (A40 : Nat → Nat → Int32), j41 A40 = some (I0, A0) → Fc pR A A40 → Fc pR I I0 ∧ Fc pR A A0 := by
            intro A40 h fA40
            subst ej41
            obtain ⟨I42, eI42, h⟩ := bd_e h
            have fI42 : Fc pR I I42 := by rw [eI42]; exact Fc_up fI (show ¬ 318 < 318 by decide)
            obtain ⟨k46, ek46, h⟩ := bd_e h
            have kk46 : ∀ (A47 : Nat → Nat → Int32), k46 A47 = some (I0, A0) → Fc pR A A47 → Fc pR I I0 ∧ Fc pR A A0 := by
              intro A47 h fA47
              subst ek46
              obtain ⟨I48, eI48, h⟩ := bd_e h
              have fI48 : Fc pR I I48 := by rw [eI48]; exact Fc_up fI42 (show ¬ 318 < 318 by decide)
              cases h; exact ⟨fI48, fA47⟩
            have lp43 : ∀ (n : Nat) (v44 : Int32) (A45 : Nat → Nat → Int32), f_X7_endsAs_L236 a1 I42 k46 n v44 A45 = some (I0, A0) → Fc pR A A45 → Fc pR I I0 ∧ Fc pR A A0 := by
              intro n
              induction n with
              | zero => intro v44 A45 h; exact absurd h (by rw [f_X7_endsAs_L236]; exact nofun)
              | succ n ih43 =>
                intro v44 A45 h fA45
                rw [f_X7_endsAs_L236] at h
                by_cases c_49 : v44 < (I42 318 31)
                · have h := ip c_49 h
                  obtain ⟨hn50, h⟩ := gk h
                  obtain ⟨hn51, h⟩ := gk h
                  obtain ⟨A52, eA52, h⟩ := bd_e h
                  have fA52 : Fc pR A A52 := by rw [eA52]; exact Fc_up fA45 (show ¬ 354 < 318 by decide)
                  obtain ⟨A53, eA53, h⟩ := bd_e h
                  have fA53 : Fc pR A A53 := by rw [eA53]; exact Fc_up fA52 (show ¬ 356 < 318 by decide)
                  obtain ⟨A54, eA54, h⟩ := bd_e h
                  have fA54 : Fc pR A A54 := by rw [eA54]; exact Fc_up fA53 (show ¬ 357 < 318 by decide)
                  obtain ⟨A55, eA55, h⟩ := bd_e h
                  have fA55 : Fc pR A A55 := by rw [eA55]; exact Fc_up fA54 (show ¬ 358 < 318 by decide)
                  obtain ⟨j58, ej58, h⟩ := bd_e h
                  have kj58 : ∀ (z57 : Int32), j58 z57 = some (I0, A0) → Fc pR I I0 ∧ Fc pR A A0 := by
                    intro z57 h
                    subst ej58
                    obtain ⟨A59, eA59, h⟩ := bd_e h
                    have fA59 : Fc pR A A59 := by rw [eA59]; exact Fc_up fA55 (show ¬ 359 < 318 by decide)
                    obtain ⟨k64, ek64, h⟩ := bd_e h
                    have kk64 : ∀ (A65 : Nat → Nat → Int32), k64 A65 = some (I0, A0) → Fc pR A A65 → Fc pR I I0 ∧ Fc pR A A0 := by
                      intro A65 h fA65
                      subst ek64
                      exact ih43 (v44 + 1) A65 h fA65
                    have lp60 : ∀ (n : Nat) (v61 : Int32) (v62 : Int32) (A63 : Nat → Nat → Int32), f_X7_endsAs_L357 v44 a1 I42 k64 n v61 v62 A63 = some (I0, A0) → Fc pR A A63 → Fc pR I I0 ∧ Fc pR A A0 := by
                      intro n
                      induction n with
                      | zero => intro v61 v62 A63 h; exact absurd h (by rw [f_X7_endsAs_L357]; exact nofun)
                      | succ n ih60 =>
                        intro v61 v62 A63 h fA63
                        rw [f_X7_endsAs_L357] at h
                        by_cases c_66 : v61 < 6
                        · have h := ip c_66 h
                          obtain ⟨hn67, h⟩ := gk h
                          obtain ⟨hn68, h⟩ := gk h
                          obtain ⟨A69, eA69, h⟩ := bd_e h
                          have fA69 : Fc pR A A69 := by rw [eA69]; exact Fc_up fA63 (show ¬ 355 < 318 by decide)
                          obtain ⟨A70, eA70, h⟩ := bd_e h
                          have fA70 : Fc pR A A70 := by rw [eA70]; exact Fc_up fA69 (show ¬ 360 < 318 by decide)
                          obtain ⟨A71, eA71, h⟩ := bd_e h
                          have fA71 : Fc pR A A71 := by rw [eA71]; exact Fc_up fA70 (show ¬ 361 < 318 by decide)
                          exact ih60 (v61 + 1) v62 A71 h fA71
                        · have h := iN c_66 h
                          exact kk64 A63 h fA63
                    exact lp60 FU 0 (A45 346 v44.toNatClampNeg) A59 h fA59
                  by_cases c_72 : (A55 338 ((A45 346 v44.toNatClampNeg).toNatClampNeg)) < (A55 319 a1.toNatClampNeg)
                  · have h := ip c_72 h
                    obtain ⟨hn73, h⟩ := gk h
                    exact kj58 (A55 321 (((6 * a1) + (A55 338 ((A45 346 v44.toNatClampNeg).toNatClampNeg))).toNatClampNeg)) h
                  · have h := iN c_72 h
                    exact kj58 0 h
                · have h := iN c_49 h
                  exact kk46 A45 h fA45
            exact lp43 FU 0 A40 h fA40
          by_cases c_74 : a2 = 1
          · have h := ip c_74 h
            obtain ⟨k78, ek78, h⟩ := bd_e h
            have kk78 : ∀ (A79 : Nat → Nat → Int32), k78 A79 = some (I0, A0) → Fc pR A A79 → Fc pR I I0 ∧ Fc pR A A0 := by
              intro A79 h fA79
              subst ek78
              exact kj41 A79 h fA79
            have lp75 : ∀ (n : Nat) (v76 : Int32) (A77 : Nat → Nat → Int32), f_X7_endsAs_L187 z4 a1 I k78 n v76 A77 = some (I0, A0) → Fc pR A A77 → Fc pR I I0 ∧ Fc pR A A0 := by
              intro n
              induction n with
              | zero => intro v76 A77 h; exact absurd h (by rw [f_X7_endsAs_L187]; exact nofun)
              | succ n ih75 =>
                intro v76 A77 h fA77
                rw [f_X7_endsAs_L187] at h
                by_cases c_80 : v76 < 6
                · have h := ip c_80 h
                  obtain ⟨hn81, h⟩ := gk h
                  obtain ⟨hn82, h⟩ := gk h
                  obtain ⟨A83, eA83, h⟩ := bd_e h
                  have fA83 : Fc pR A A83 := by rw [eA83]; exact Fc_up fA77 (show ¬ 353 < 318 by decide)
                  exact ih75 (v76 + 1) A83 h fA83
                · have h := iN c_80 h
                  exact kk78 A77 h fA77
            exact lp75 FU 0 A30 h fA30
          · have h := iN c_74 h
            exact kj41 A30 h fA30
        by_cases c_84 : a2 = 1
        · have h := ip c_84 h
          exact kj29 1 h
        · have h := iN c_84 h
          exact kj29 0 h
      by_cases c_85 : a2 = 1
      · have h := ip c_85 h
        obtain ⟨hn88, h⟩ := gk h
        exact kj23 (A18 341 z4.toNatClampNeg) h
      · have h := iN c_85 h
        by_cases c_86 : r1 = (-9)
        · have h := ip c_86 h
          exact kj23 (-1000000) h
        · have h := iN c_86 h
          obtain ⟨hn87, h⟩ := gk h
          exact kj23 (A18 341 r1.toNatClampNeg) h
    by_cases c_89 : a2 = 1
    · have h := ip c_89 h
      obtain ⟨hn90, h⟩ := gk h
      exact kj16 (A13 341 z4.toNatClampNeg) h
    · have h := iN c_89 h
      exact kj16 (-1000000) h
  by_cases c_91 : 0 < (I 318 31)
  · have h := ip c_91 h
    obtain ⟨hn92, h⟩ := gk h
    exact kj5 (A 346 (((I 318 31) - 1).toNatClampNeg)) h
  · have h := iN c_91 h
    exact kj5 (-9) h
set_option maxHeartbeats 4000000 in
set_option maxRecDepth 100000 in
theorem fr_X7_fail (I : Nat → Nat → Int32) (A : Nat → Nat → Int32) (a1 : Int32) (a2 : Int32) (r0 : Int32) (I0 : Nat → Nat → Int32) (A0 : Nat → Nat → Int32) (h : f_X7_fail I A a1 a2 = some (r0, I0, A0)) : Fc pR I I0 ∧ Fc pR A A0 := by
  have fI : Fc pR I I := Fc_rf
  have fA : Fc pR A A := Fc_rf
  rw [f_X7_fail] at h
  obtain ⟨I1, eI1, h⟩ := bd_e h
  have fI1 : Fc pR I I1 := by rw [eI1]; exact Fc_up fI (show ¬ 318 < 318 by decide)
  obtain ⟨r2, hc3, h⟩ := Option.bind_eq_some_iff.mp h
  by_cases c_4 : r2 = 0
  · have h := ip c_4 h
    cases h; exact ⟨fI1, fA⟩
  · have h := iN c_4 h
    obtain ⟨r5, hc6, h⟩ := Option.bind_eq_some_iff.mp h
    by_cases c_7 : r5 = 0
    · have h := ip c_7 h
      cases h; exact ⟨fI1, fA⟩
    · have h := iN c_7 h
      by_cases c_8 : (I1 318 23) = (-9)
      · have h := ip c_8 h
        obtain ⟨hn9, h⟩ := gk h
        obtain ⟨A10, eA10, h⟩ := bd_e h
        have fA10 : Fc pR A A10 := by rw [eA10]; exact Fc_up fA (show ¬ 330 < 318 by decide)
        cases h; exact ⟨fI1, fA10⟩
      · have h := iN c_8 h
        cases h; exact ⟨fI1, fA⟩
set_option maxHeartbeats 4000000 in
set_option maxRecDepth 100000 in
theorem fr_X7_giveUp (I : Nat → Nat → Int32) (r0 : Int32) (I0 : Nat → Nat → Int32) (h : f_X7_giveUp I = some (r0, I0)) : Fc pR I I0 := by
  have fI : Fc pR I I := Fc_rf
  rw [f_X7_giveUp] at h
  obtain ⟨I1, eI1, h⟩ := bd_e h
  have fI1 : Fc pR I I1 := by rw [eI1]; exact Fc_up fI (show ¬ 318 < 318 by decide)
  by_cases c_2 : (I1 318 23) = (-9)
  · have h := ip c_2 h
    cases h; exact fI1
  · have h := iN c_2 h
    obtain ⟨I3, eI3, h⟩ := bd_e h
    have fI3 : Fc pR I I3 := by rw [eI3]; exact Fc_up fI1 (show ¬ 318 < 318 by decide)
    cases h; exact fI3
set_option maxHeartbeats 4000000 in
set_option maxRecDepth 100000 in
theorem fr_X7_helper (I : Nat → Nat → Int32) (A : Nat → Nat → Int32) (a1 : Int32) (a2 : Int32) (r0 : Int32) (I0 : Nat → Nat → Int32) (h : f_X7_helper I A a1 a2 = some (r0, I0)) : Fc pR I I0 := by
  have fI : Fc pR I I := Fc_rf
  have fA : Fc pR A A := Fc_rf
  rw [f_X7_helper] at h
  obtain ⟨I1, eI1, h⟩ := bd_e h
  have fI1 : Fc pR I I1 := by rw [eI1]; exact Fc_up fI (show ¬ 318 < 318 by decide)
  obtain ⟨r2, hc3, h⟩ := Option.bind_eq_some_iff.mp h
  by_cases c_4 : r2 = 0
  · have h := ip c_4 h
    cases h; exact fI1
  · have h := iN c_4 h
    obtain ⟨r5, hc6, h⟩ := Option.bind_eq_some_iff.mp h
    by_cases c_7 : r5 = 0
    · have h := ip c_7 h
      cases h; exact fI1
    · have h := iN c_7 h
      by_cases c_8 : a2 = 0
      · have h := ip c_8 h
        obtain ⟨hn12, h⟩ := gk h
        cases h; exact fI1
      · have h := iN c_8 h
        by_cases c_9 : a2 = 1
        · have h := ip c_9 h
          obtain ⟨hn11, h⟩ := gk h
          cases h; exact fI1
        · have h := iN c_9 h
          obtain ⟨hn10, h⟩ := gk h
          cases h; exact fI1
set_option maxHeartbeats 4000000 in
set_option maxRecDepth 100000 in
theorem fr_X7_helpers (I : Nat → Nat → Int32) (A : Nat → Nat → Int32) (a1 : Int32) (r0 : Int32) (I0 : Nat → Nat → Int32) (A0 : Nat → Nat → Int32) (h : f_X7_helpers I A a1 = some (r0, I0, A0)) : Fc pR I I0 ∧ Fc pR A A0 := by
  have fI : Fc pR I I := Fc_rf
  have fA : Fc pR A A := Fc_rf
  rw [f_X7_helpers] at h
  obtain ⟨I1, eI1, h⟩ := bd_e h
  have fI1 : Fc pR I I1 := by rw [eI1]; exact Fc_up fI (show ¬ 318 < 318 by decide)
  obtain ⟨r2, hc3, h⟩ := Option.bind_eq_some_iff.mp h
  by_cases c_4 : r2 = 0
  · have h := ip c_4 h
    cases h; exact ⟨fI1, fA⟩
  · have h := iN c_4 h
    by_cases c_5 : (I1 318 23) = (-9)
    · have h := ip c_5 h
      obtain ⟨I6, eI6, h⟩ := bd_e h
      have fI6 : Fc pR I I6 := by rw [eI6]; exact Fc_up fI1 (show ¬ 318 < 318 by decide)
      obtain ⟨k11, ek11, h⟩ := bd_e h
      have kk11 : ∀ (v12 : Int32) (A13 : Nat → Nat → Int32), k11 v12 A13 = some (r0, I0, A0) → Fc pR A A13 → Fc pR I I0 ∧ Fc pR A A0 := by
        intro v12 A13 h fA13
        subst ek11
        cases h; exact ⟨fI6, fA13⟩
      have lp7 : ∀ (n : Nat) (v8 : Int32) (v9 : Int32) (A10 : Nat → Nat → Int32), f_X7_helpers_L40 I6 k11 n v8 v9 A10 = some (r0, I0, A0) → Fc pR A A10 → Fc pR I I0 ∧ Fc pR A A0 := by
        intro n
        induction n with
        | zero => intro v8 v9 A10 h; exact absurd h (by rw [f_X7_helpers_L40]; exact nofun)
        | succ n ih7 =>
          intro v8 v9 A10 h fA10
          rw [f_X7_helpers_L40] at h
          by_cases c_14 : v8 < 5
          · have h := ip c_14 h
            obtain ⟨hn15, h⟩ := gk h
            obtain ⟨A16, eA16, h⟩ := bd_e h
            have fA16 : Fc pR A A16 := by rw [eA16]; exact Fc_up fA10 (show ¬ 330 < 318 by decide)
            exact ih7 (v8 + 1) v9 A16 h fA16
          · have h := iN c_14 h
            exact kk11 v9 A10 h fA10
      exact lp7 FU 0 (I1 318 15) A h fA
    · have h := iN c_5 h
      cases h; exact ⟨fI1, fA⟩
set_option maxHeartbeats 4000000 in
set_option maxRecDepth 100000 in
theorem fr_X7_limit (I : Nat → Nat → Int32) (a1 : Int32) (r0 : Int32) (I0 : Nat → Nat → Int32) (h : f_X7_limit I a1 = some (r0, I0)) : Fc pR I I0 := by
  have fI : Fc pR I I := Fc_rf
  rw [f_X7_limit] at h
  obtain ⟨I1, eI1, h⟩ := bd_e h
  have fI1 : Fc pR I I1 := by rw [eI1]; exact Fc_up fI (show ¬ 318 < 318 by decide)
  obtain ⟨r2, hc3, h⟩ := Option.bind_eq_some_iff.mp h
  by_cases c_4 : r2 = 0
  · have h := ip c_4 h
    cases h; exact fI1
  · have h := iN c_4 h
    by_cases c_5 : (I1 318 23) = (-9)
    · have h := ip c_5 h
      obtain ⟨I6, eI6, h⟩ := bd_e h
      have fI6 : Fc pR I I6 := by rw [eI6]; exact Fc_up fI1 (show ¬ 318 < 318 by decide)
      cases h; exact fI6
    · have h := iN c_5 h
      cases h; exact fI1
set_option maxHeartbeats 4000000 in
set_option maxRecDepth 100000 in
theorem fr_X7_node (I : Nat → Nat → Int32) (A : Nat → Nat → Int32) (a1 : Int32) (a2 : Int32) (a3 : Int32) (r0 : Int32) (I0 : Nat → Nat → Int32) (A0 : Nat → Nat → Int32) (h : f_X7_node I A a1 a2 a3 = some (r0, I0, A0)) : Fc pR I I0 ∧ Fc pR A A0 := by
  have fI : Fc pR I I := Fc_rf
  have fA : Fc pR A A := Fc_rf
  rw [f_X7_node] at h
  obtain ⟨I1, eI1, h⟩ := bd_e h
  have fI1 : Fc pR I I1 := by rw [eI1]; exact Fc_up fI (show ¬ 318 < 318 by decide)
  obtain ⟨r2, hc3, h⟩ := Option.bind_eq_some_iff.mp h
  by_cases c_4 : r2 = 0
  · have h := ip c_4 h
    cases h; exact ⟨fI1, fA⟩
  · have h := iN c_4 h
    by_cases c_5 : (I1 318 57) = (-9)
    · have h := ip c_5 h
      cases h; exact ⟨fI1, fA⟩
    · have h := iN c_5 h
      obtain ⟨hn6, h⟩ := gk h
      by_cases c_7 : (A 329 ((I1 318 57).toNatClampNeg)) = (I1 318 58)
      · have h := ip c_7 h
        obtain ⟨k12, ek12, h⟩ := bd_e h
        have kk12 : ∀ (v13 : Int32) (A14 : Nat → Nat → Int32), k12 v13 A14 = some (r0, I0, A0) → Fc pR A A14 → Fc pR I I0 ∧ Fc pR A A0 := by
          intro v13 A14 h fA14
          subst ek12
          by_cases c_15 : a1 = 0
          · have h := ip c_15 h
            obtain ⟨r33, hc34, h⟩ := Option.bind_eq_some_iff.mp h
            by_cases c_35 : r33 = 0
            · have h := ip c_35 h
              cases h; exact ⟨fI1, fA14⟩
            · have h := iN c_35 h
              obtain ⟨r36, hc37, h⟩ := Option.bind_eq_some_iff.mp h
              by_cases c_38 : r36 = 0
              · have h := ip c_38 h
                cases h; exact ⟨fI1, fA14⟩
              · have h := iN c_38 h
                cases h; exact ⟨fI1, fA14⟩
          · have h := iN c_15 h
            by_cases c_16 : a1 = 1
            · have h := ip c_16 h
              obtain ⟨r25, hc26, h⟩ := Option.bind_eq_some_iff.mp h
              by_cases c_27 : r25 = 0
              · have h := ip c_27 h
                cases h; exact ⟨fI1, fA14⟩
              · have h := iN c_27 h
                by_cases c_28 : a2 < (I1 318 59)
                · have h := ip c_28 h
                  cases h; exact ⟨fI1, fA14⟩
                · have h := iN c_28 h
                  obtain ⟨⟨r29, A30⟩, hc31, h⟩ := Option.bind_eq_some_iff.mp h
                  have fA30 : Fc pR A A30 := Fc_tr fA14 (fr_X7_isOut A14 v13 a2 a3 r29 A30 hc31)
                  by_cases c_32 : r29 = 0
                  · have h := ip c_32 h
                    cases h; exact ⟨fI1, fA30⟩
                  · have h := iN c_32 h
                    cases h; exact ⟨fI1, fA30⟩
            · have h := iN c_16 h
              obtain ⟨⟨r17, I18, A19⟩, hc20, h⟩ := Option.bind_eq_some_iff.mp h
              have fI18 : Fc pR I I18 := Fc_tr fI1 (fr_X7_whatIs I1 A14 v13 (I1 318 59) 1 r17 I18 A19 hc20).1
              have fA19 : Fc pR A A19 := Fc_tr fA14 (fr_X7_whatIs I1 A14 v13 (I1 318 59) 1 r17 I18 A19 hc20).2
              by_cases c_21 : a1 = 2
              · have h := ip c_21 h
                cases h; exact ⟨fI18, fA19⟩
              · have h := iN c_21 h
                by_cases c_22 : a1 = 3
                · have h := ip c_22 h
                  by_cases c_24 : r17 = 0
                  · have h := ip c_24 h
                    cases h; exact ⟨fI18, fA19⟩
                  · have h := iN c_24 h
                    cases h; exact ⟨fI18, fA19⟩
                · have h := iN c_22 h
                  by_cases c_23 : r17 = 0
                  · have h := ip c_23 h
                    cases h; exact ⟨fI18, fA19⟩
                  · have h := iN c_23 h
                    cases h; exact ⟨fI18, fA19⟩
        have lp8 : ∀ (n : Nat) (v9 : Int32) (v10 : Int32) (A11 : Nat → Nat → Int32), f_X7_node_L53 a1 a2 a3 I1 k12 n v9 v10 A11 = some (r0, I0, A0) → Fc pR A A11 → Fc pR I I0 ∧ Fc pR A A0 := by
          intro n
          induction n with
          | zero => intro v9 v10 A11 h; exact absurd h (by rw [f_X7_node_L53]; exact nofun)
          | succ n ih8 =>
            intro v9 v10 A11 h fA11
            rw [f_X7_node_L53] at h
            by_cases c_39 : v9 < 6
            · have h := ip c_39 h
              by_cases c_40 : v9 < (I1 318 59)
              · have h := ip c_40 h
                obtain ⟨hn43, h⟩ := gk h
                obtain ⟨A44, eA44, h⟩ := bd_e h
                have fA44 : Fc pR A A44 := by rw [eA44]; exact Fc_up fA11 (show ¬ 364 < 318 by decide)
                exact ih8 (v9 + 1) v10 A44 h fA44
              · have h := iN c_40 h
                obtain ⟨hn41, h⟩ := gk h
                obtain ⟨A42, eA42, h⟩ := bd_e h
                have fA42 : Fc pR A A42 := by rw [eA42]; exact Fc_up fA11 (show ¬ 364 < 318 by decide)
                exact ih8 (v9 + 1) v10 A42 h fA42
            · have h := iN c_39 h
              exact kk12 v10 A11 h fA11
        exact lp8 FU 0 (I1 318 57) A h fA
      · have h := iN c_7 h
        cases h; exact ⟨fI1, fA⟩
set_option maxHeartbeats 4000000 in
set_option maxRecDepth 100000 in
theorem fr_X7_number (I : Nat → Nat → Int32) (A : Nat → Nat → Int32) (a1 : Int32) (a2 : Int32) (a3 : Int32) (r0 : Int32) (I0 : Nat → Nat → Int32) (A0 : Nat → Nat → Int32) (h : f_X7_number I A a1 a2 a3 = some (r0, I0, A0)) : Fc pR I I0 ∧ Fc pR A A0 := by
  have fI : Fc pR I I := Fc_rf
  have fA : Fc pR A A := Fc_rf
  rw [f_X7_number] at h
  obtain ⟨I1, eI1, h⟩ := bd_e h
  have fI1 : Fc pR I I1 := by rw [eI1]; exact Fc_up fI (show ¬ 318 < 318 by decide)
  obtain ⟨I2, eI2, h⟩ := bd_e h
  have fI2 : Fc pR I I2 := by rw [eI2]; exact Fc_up fI1 (show ¬ 318 < 318 by decide)
  obtain ⟨r3, hc4, h⟩ := Option.bind_eq_some_iff.mp h
  by_cases c_5 : r3 = 0
  · have h := ip c_5 h
    obtain ⟨⟨r6, I7⟩, hc8, h⟩ := Option.bind_eq_some_iff.mp h
    have fI7 : Fc pR I I7 := Fc_tr fI2 (fr_X7_no I2 (-1) r6 I7 hc8)
    cases h; exact ⟨fI7, fA⟩
  · have h := iN c_5 h
    obtain ⟨r9, hc10, h⟩ := Option.bind_eq_some_iff.mp h
    by_cases c_11 : r9 = 0
    · have h := ip c_11 h
      obtain ⟨⟨r21, I22⟩, hc23, h⟩ := Option.bind_eq_some_iff.mp h
      have fI22 : Fc pR I I22 := Fc_tr fI2 (fr_X7_no I2 (-1) r21 I22 hc23)
      cases h; exact ⟨fI22, fA⟩
    · have h := iN c_11 h
      by_cases c_12 : (I2 318 23) = (-9)
      · have h := ip c_12 h
        obtain ⟨hn13, h⟩ := gk h
        obtain ⟨A14, eA14, h⟩ := bd_e h
        have fA14 : Fc pR A A14 := by rw [eA14]; exact Fc_up fA (show ¬ 325 < 318 by decide)
        obtain ⟨⟨I15, A16⟩, hc17, h⟩ := Option.bind_eq_some_iff.mp h
        have fI15 : Fc pR I I15 := Fc_tr fI2 (fr_X7_changes I2 A14 a1 I15 A16 hc17).1
        have fA16 : Fc pR A A16 := Fc_tr fA14 (fr_X7_changes I2 A14 a1 I15 A16 hc17).2
        cases h; exact ⟨fI15, fA16⟩
      · have h := iN c_12 h
        obtain ⟨⟨r18, I19⟩, hc20, h⟩ := Option.bind_eq_some_iff.mp h
        have fI19 : Fc pR I I19 := Fc_tr fI2 (fr_X7_no I2 (-2) r18 I19 hc20)
        cases h; exact ⟨fI19, fA⟩
set_option maxHeartbeats 4000000 in
set_option maxRecDepth 100000 in
theorem fr_X7_rowOf (A : Nat → Nat → Int32) (a1 : Int32) (A0 : Nat → Nat → Int32) (h : f_X7_rowOf A a1 = some A0) : Fc pR A A0 := by
  have fA : Fc pR A A := Fc_rf
  rw [f_X7_rowOf] at h
  obtain ⟨k4, ek4, h⟩ := bd_e h
  have kk4 : ∀ (A5 : Nat → Nat → Int32), k4 A5 = some A0 → Fc pR A A5 → Fc pR A A0 := by
    intro A5 h fA5
    subst ek4
    cases h; exact fA5
  have lp1 : ∀ (n : Nat) (v2 : Int32) (A3 : Nat → Nat → Int32), f_X7_rowOf_L2 a1 k4 n v2 A3 = some A0 → Fc pR A A3 → Fc pR A A0 := by
    intro n
    induction n with
    | zero => intro v2 A3 h; exact absurd h (by rw [f_X7_rowOf_L2]; exact nofun)
    | succ n ih1 =>
      intro v2 A3 h fA3
      rw [f_X7_rowOf_L2] at h
      by_cases c_6 : v2 < 6
      · have h := ip c_6 h
        obtain ⟨hn7, h⟩ := gk h
        obtain ⟨hn8, h⟩ := gk h
        obtain ⟨A9, eA9, h⟩ := bd_e h
        have fA9 : Fc pR A A9 := by rw [eA9]; exact Fc_up fA3 (show ¬ 364 < 318 by decide)
        exact ih1 (v2 + 1) A9 h fA9
      · have h := iN c_6 h
        exact kk4 A3 h fA3
  exact lp1 FU 0 A h fA
set_option maxHeartbeats 4000000 in
set_option maxRecDepth 100000 in
theorem fr_X7_opens (I : Nat → Nat → Int32) (A : Nat → Nat → Int32) (a1 : Int32) (a2 : Int32) (a3 : Int32) (I0 : Nat → Nat → Int32) (A0 : Nat → Nat → Int32) (h : f_X7_opens I A a1 a2 a3 = some (I0, A0)) : Fc pR I I0 ∧ Fc pR A A0 := by
  have fI : Fc pR I I := Fc_rf
  have fA : Fc pR A A := Fc_rf
  rw [f_X7_opens] at h
  obtain ⟨hn1, h⟩ := gk h
  obtain ⟨A2, eA2, h⟩ := bd_e h
  have fA2 : Fc pR A A2 := by rw [eA2]; exact Fc_up fA (show ¬ 344 < 318 by decide)
  obtain ⟨I3, eI3, h⟩ := bd_e h
  have fI3 : Fc pR I I3 := by rw [eI3]; exact Fc_up fI (show ¬ 318 < 318 by decide)
  obtain ⟨hn4, h⟩ := gk h
  by_cases c_5 : (A2 338 a2.toNatClampNeg) = (A2 319 a1.toNatClampNeg)
  · have h := ip c_5 h
    cases h; exact ⟨fI3, fA2⟩
  · have h := iN c_5 h
    obtain ⟨k11, ek11, h⟩ := bd_e h
    have kk11 : ∀ (I12 : Nat → Nat → Int32) (A13 : Nat → Nat → Int32), k11 I12 A13 = some (I0, A0) → Fc pR I I12 → Fc pR A A13 → Fc pR I I0 ∧ Fc pR A A0 := by
      intro I12 A13 h fI12 fA13
      subst ek11
      cases h; exact ⟨fI12, fA13⟩
    have lp6 : ∀ (n : Nat) (v7 : Int32) (v8 : Int32) (I9 : Nat → Nat → Int32) (A10 : Nat → Nat → Int32), f_X7_opens_L40 a1 a2 a3 k11 n v7 v8 I9 A10 = some (I0, A0) → Fc pR I I9 → Fc pR A A10 → Fc pR I I0 ∧ Fc pR A A0 := by
      intro n
      induction n with
      | zero => intro v7 v8 I9 A10 h; exact absurd h (by rw [f_X7_opens_L40]; exact nofun)
      | succ n ih6 =>
        intro v7 v8 I9 A10 h fI9 fA10
        rw [f_X7_opens_L40] at h
        obtain ⟨hn14, h⟩ := gk h
        by_cases c_15 : v7 < (A10 321 (((6 * a1) + v8).toNatClampNeg))
        · have h := ip c_15 h
          obtain ⟨A16, hc17, h⟩ := Option.bind_eq_some_iff.mp h
          have fA16 : Fc pR A A16 := Fc_tr fA10 (fr_X7_rowOf A10 a2 A16 hc17)
          obtain ⟨hn18, h⟩ := gk h
          obtain ⟨A19, eA19, h⟩ := bd_e h
          have fA19 : Fc pR A A19 := by rw [eA19]; exact Fc_up fA16 (show ¬ 364 < 318 by decide)
          obtain ⟨⟨r20, I21, A22⟩, hc23, h⟩ := Option.bind_eq_some_iff.mp h
          have fI21 : Fc pR I I21 := Fc_tr fI9 (fr_X7_whatIs I9 A19 a1 (v8 + 1) a3 r20 I21 A22 hc23).1
          have fA22 : Fc pR A A22 := Fc_tr fA19 (fr_X7_whatIs I9 A19 a1 (v8 + 1) a3 r20 I21 A22 hc23).2
          obtain ⟨hn24, h⟩ := gk h
          obtain ⟨A25, eA25, h⟩ := bd_e h
          have fA25 : Fc pR A A25 := by rw [eA25]; exact Fc_up fA22 (show ¬ 347 < 318 by decide)
          obtain ⟨j27, ej27, h⟩ := bd_e h
          have kj27 : ∀ (z26 : Int32), j27 z26 = some (I0, A0) → Fc pR I I0 ∧ Fc pR A A0 := by
            intro z26 h
            subst ej27
            obtain ⟨A28, eA28, h⟩ := bd_e h
            have fA28 : Fc pR A A28 := by rw [eA28]; exact Fc_up fA25 (show ¬ 348 < 318 by decide)
            by_cases c_29 : r20 = 0
            · have h := ip c_29 h
              obtain ⟨⟨I30, A31⟩, hc32, h⟩ := Option.bind_eq_some_iff.mp h
              have fI30 : Fc pR I I30 := Fc_tr fI21 (fr_X7_addNode I21 A28 (v8 + 1) a2 I30 A31 hc32).1
              have fA31 : Fc pR A A31 := Fc_tr fA28 (fr_X7_addNode I21 A28 (v8 + 1) a2 I30 A31 hc32).2
              obtain ⟨A33, eA33, h⟩ := bd_e h
              have fA33 : Fc pR A A33 := by rw [eA33]; exact Fc_up fA31 (show ¬ 349 < 318 by decide)
              exact ih6 (v7 + 1) v8 I30 A33 h fI30 fA33
            · have h := iN c_29 h
              exact ih6 (v7 + 1) v8 I21 A28 h fI21 fA28
          by_cases c_34 : r20 = 0
          · have h := ip c_34 h
            exact kj27 (-9) h
          · have h := iN c_34 h
            exact kj27 (I21 318 64) h
        · have h := iN c_15 h
          exact kk11 I9 A10 h fI9 fA10
    exact lp6 FU 0 (A2 338 a2.toNatClampNeg) I3 A2 h fI3 fA2
set_option maxHeartbeats 4000000 in
set_option maxRecDepth 100000 in
theorem fr_X7_part (I : Nat → Nat → Int32) (A : Nat → Nat → Int32) (a1 : Int32) (a2 : Int32) (a3 : Int32) (a4 : Int32) (r0 : Int32) (I0 : Nat → Nat → Int32) (A0 : Nat → Nat → Int32) (h : f_X7_part I A a1 a2 a3 a4 = some (r0, I0, A0)) : Fc pR I I0 ∧ Fc pR A A0 := by
  have fI : Fc pR I I := Fc_rf
  have fA : Fc pR A A := Fc_rf
  rw [f_X7_part] at h
  obtain ⟨I1, eI1, h⟩ := bd_e h
  have fI1 : Fc pR I I1 := by rw [eI1]; exact Fc_up fI (show ¬ 318 < 318 by decide)
  obtain ⟨r2, hc3, h⟩ := Option.bind_eq_some_iff.mp h
  by_cases c_4 : r2 = 0
  · have h := ip c_4 h
    cases h; exact ⟨fI1, fA⟩
  · have h := iN c_4 h
    obtain ⟨hn5, h⟩ := gk h
    obtain ⟨r6, hc7, h⟩ := Option.bind_eq_some_iff.mp h
    by_cases c_8 : r6 = 0
    · have h := ip c_8 h
      cases h; exact ⟨fI1, fA⟩
    · have h := iN c_8 h
      obtain ⟨r9, hc10, h⟩ := Option.bind_eq_some_iff.mp h
      by_cases c_11 : r9 = 0
      · have h := ip c_11 h
        cases h; exact ⟨fI1, fA⟩
      · have h := iN c_11 h
        by_cases c_12 : (I1 318 23) = (-9)
        · have h := ip c_12 h
          obtain ⟨r13, hc14, h⟩ := Option.bind_eq_some_iff.mp h
          by_cases c_15 : r13 = (-9)
          · have h := ip c_15 h
            obtain ⟨hn16, h⟩ := gk h
            obtain ⟨hn17, h⟩ := gk h
            obtain ⟨A18, eA18, h⟩ := bd_e h
            have fA18 : Fc pR A A18 := by rw [eA18]; exact Fc_up fA (show ¬ 327 < 318 by decide)
            obtain ⟨hn19, h⟩ := gk h
            obtain ⟨A20, eA20, h⟩ := bd_e h
            have fA20 : Fc pR A A20 := by rw [eA20]; exact Fc_up fA18 (show ¬ 328 < 318 by decide)
            obtain ⟨A21, eA21, h⟩ := bd_e h
            have fA21 : Fc pR A A21 := by rw [eA21]; exact Fc_up fA20 (show ¬ 326 < 318 by decide)
            obtain ⟨⟨I22, A23⟩, hc24, h⟩ := Option.bind_eq_some_iff.mp h
            have fI22 : Fc pR I I22 := Fc_tr fI1 (fr_X7_changes I1 A21 a1 I22 A23 hc24).1
            have fA23 : Fc pR A A23 := Fc_tr fA21 (fr_X7_changes I1 A21 a1 I22 A23 hc24).2
            cases h; exact ⟨fI22, fA23⟩
          · have h := iN c_15 h
            cases h; exact ⟨fI1, fA⟩
        · have h := iN c_12 h
          cases h; exact ⟨fI1, fA⟩
set_option maxHeartbeats 4000000 in
set_option maxRecDepth 100000 in
theorem fr_X7_plain (I : Nat → Nat → Int32) (r0 : Int32) (I0 : Nat → Nat → Int32) (h : f_X7_plain I = some (r0, I0)) : Fc pR I I0 := by
  have fI : Fc pR I I := Fc_rf
  rw [f_X7_plain] at h
  obtain ⟨I1, eI1, h⟩ := bd_e h
  have fI1 : Fc pR I I1 := by rw [eI1]; exact Fc_up fI (show ¬ 318 < 318 by decide)
  by_cases c_2 : (I1 318 23) = (-9)
  · have h := ip c_2 h
    obtain ⟨I3, eI3, h⟩ := bd_e h
    have fI3 : Fc pR I I3 := by rw [eI3]; exact Fc_up fI1 (show ¬ 318 < 318 by decide)
    cases h; exact fI3
  · have h := iN c_2 h
    cases h; exact fI1
set_option maxHeartbeats 4000000 in
set_option maxRecDepth 100000 in
theorem fr_X7_problem (I : Nat → Nat → Int32) (r0 : Int32) (I0 : Nat → Nat → Int32) (h : f_X7_problem I = some (r0, I0)) : Fc pR I I0 := by
  have fI : Fc pR I I := Fc_rf
  rw [f_X7_problem] at h
  obtain ⟨I1, eI1, h⟩ := bd_e h
  have fI1 : Fc pR I I1 := by rw [eI1]; exact Fc_up fI (show ¬ 318 < 318 by decide)
  by_cases c_2 : (I1 318 23) = (-9)
  · have h := ip c_2 h
    by_cases c_3 : (I1 318 2) = 5
    · have h := ip c_3 h
      cases h; exact fI1
    · have h := iN c_3 h
      obtain ⟨I4, eI4, h⟩ := bd_e h
      have fI4 : Fc pR I I4 := by rw [eI4]; exact Fc_up fI1 (show ¬ 318 < 318 by decide)
      cases h; exact fI4
  · have h := iN c_2 h
    cases h; exact fI1
set_option maxHeartbeats 4000000 in
set_option maxRecDepth 100000 in
theorem fr_X7_row (I : Nat → Nat → Int32) (A : Nat → Nat → Int32) (a1 : Int32) (r0 : Int32) (I0 : Nat → Nat → Int32) (h : f_X7_row I A a1 = some (r0, I0)) : Fc pR I I0 := by
  have fI : Fc pR I I := Fc_rf
  have fA : Fc pR A A := Fc_rf
  rw [f_X7_row] at h
  obtain ⟨I1, eI1, h⟩ := bd_e h
  have fI1 : Fc pR I I1 := by rw [eI1]; exact Fc_up fI (show ¬ 318 < 318 by decide)
  by_cases c_2 : (I1 318 61) = (-9)
  · have h := ip c_2 h
    cases h; exact fI1
  · have h := iN c_2 h
    obtain ⟨r3, hc4, h⟩ := Option.bind_eq_some_iff.mp h
    by_cases c_5 : r3 = 0
    · have h := ip c_5 h
      cases h; exact fI1
    · have h := iN c_5 h
      obtain ⟨hn6, h⟩ := gk h
      cases h; exact fI1
set_option maxHeartbeats 4000000 in
set_option maxRecDepth 100000 in
theorem fr_X7_rule (I : Nat → Nat → Int32) (A : Nat → Nat → Int32) (a1 : Int32) (a2 : Int32) (a3 : Int32) (r0 : Int32) (I0 : Nat → Nat → Int32) (A0 : Nat → Nat → Int32) (h : f_X7_rule I A a1 a2 a3 = some (r0, I0, A0)) : Fc pR I I0 ∧ Fc pR A A0 := by
  have fI : Fc pR I I := Fc_rf
  have fA : Fc pR A A := Fc_rf
  rw [f_X7_rule] at h
  obtain ⟨I1, eI1, h⟩ := bd_e h
  have fI1 : Fc pR I I1 := by rw [eI1]; exact Fc_up fI (show ¬ 318 < 318 by decide)
  obtain ⟨r2, hc3, h⟩ := Option.bind_eq_some_iff.mp h
  by_cases c_4 : r2 = 0
  · have h := ip c_4 h
    cases h; exact ⟨fI1, fA⟩
  · have h := iN c_4 h
    obtain ⟨r5, hc6, h⟩ := Option.bind_eq_some_iff.mp h
    by_cases c_7 : r5 = 0
    · have h := ip c_7 h
      cases h; exact ⟨fI1, fA⟩
    · have h := iN c_7 h
      obtain ⟨r8, hc9, h⟩ := Option.bind_eq_some_iff.mp h
      by_cases c_10 : r8 = 0
      · have h := ip c_10 h
        cases h; exact ⟨fI1, fA⟩
      · have h := iN c_10 h
        by_cases c_11 : (I1 318 23) = (-9)
        · have h := ip c_11 h
          obtain ⟨hn12, h⟩ := gk h
          by_cases c_13 : (A 320 a1.toNatClampNeg) = 8
          · have h := ip c_13 h
            cases h; exact ⟨fI1, fA⟩
          · have h := iN c_13 h
            obtain ⟨hn14, h⟩ := gk h
            obtain ⟨A15, eA15, h⟩ := bd_e h
            have fA15 : Fc pR A A15 := by rw [eA15]; exact Fc_up fA (show ¬ 324 < 318 by decide)
            obtain ⟨A16, eA16, h⟩ := bd_e h
            have fA16 : Fc pR A A16 := by rw [eA16]; exact Fc_up fA15 (show ¬ 325 < 318 by decide)
            obtain ⟨A17, eA17, h⟩ := bd_e h
            have fA17 : Fc pR A A17 := by rw [eA17]; exact Fc_up fA16 (show ¬ 320 < 318 by decide)
            obtain ⟨⟨I18, A19⟩, hc20, h⟩ := Option.bind_eq_some_iff.mp h
            have fI18 : Fc pR I I18 := Fc_tr fI1 (fr_X7_changes I1 A17 a1 I18 A19 hc20).1
            have fA19 : Fc pR A A19 := Fc_tr fA17 (fr_X7_changes I1 A17 a1 I18 A19 hc20).2
            cases h; exact ⟨fI18, fA19⟩
        · have h := iN c_11 h
          cases h; exact ⟨fI1, fA⟩
set_option maxHeartbeats 4000000 in
set_option maxRecDepth 100000 in
theorem fr_X7_same (I : Nat → Nat → Int32) (a1 : Int32) (a2 : Int32) (r0 : Int32) (I0 : Nat → Nat → Int32) (h : f_X7_same I a1 a2 = some (r0, I0)) : Fc pR I I0 := by
  have fI : Fc pR I I := Fc_rf
  rw [f_X7_same] at h
  obtain ⟨I1, eI1, h⟩ := bd_e h
  have fI1 : Fc pR I I1 := by rw [eI1]; exact Fc_up fI (show ¬ 318 < 318 by decide)
  obtain ⟨r2, hc3, h⟩ := Option.bind_eq_some_iff.mp h
  by_cases c_4 : r2 = 0
  · have h := ip c_4 h
    cases h; exact fI1
  · have h := iN c_4 h
    obtain ⟨r5, hc6, h⟩ := Option.bind_eq_some_iff.mp h
    by_cases c_7 : r5 = 0
    · have h := ip c_7 h
      cases h; exact fI1
    · have h := iN c_7 h
      by_cases c_8 : (I1 318 23) = (-9)
      · have h := ip c_8 h
        cases h; exact fI1
      · have h := iN c_8 h
        cases h; exact fI1
set_option maxHeartbeats 4000000 in
set_option maxRecDepth 100000 in
theorem fr_X7_takes (I : Nat → Nat → Int32) (A : Nat → Nat → Int32) (a1 : Int32) (I0 : Nat → Nat → Int32) (A0 : Nat → Nat → Int32) (h : f_X7_takes I A a1 = some (I0, A0)) : Fc pR I I0 ∧ Fc pR A A0 := by
  have fI : Fc pR I I := Fc_rf
  have fA : Fc pR A A := Fc_rf
  rw [f_X7_takes] at h
  obtain ⟨hn1, h⟩ := gk h
  obtain ⟨A2, eA2, h⟩ := bd_e h
  have fA2 : Fc pR A A2 := by rw [eA2]; exact Fc_up fA (show ¬ 345 < 318 by decide)
  obtain ⟨hn3, h⟩ := gk h
  obtain ⟨A4, eA4, h⟩ := bd_e h
  have fA4 : Fc pR A A4 := by rw [eA4]; exact Fc_up fA2 (show ¬ 346 < 318 by decide)
  obtain ⟨I5, eI5, h⟩ := bd_e h
  have fI5 : Fc pR I I5 := by rw [eI5]; exact Fc_up fI (show ¬ 318 < 318 by decide)
  cases h; exact ⟨fI5, fA4⟩
set_option maxHeartbeats 4000000 in
set_option maxRecDepth 100000 in
theorem fr_X7_second (I : Nat → Nat → Int32) (A : Nat → Nat → Int32) (a1 : Int32) (a2 : Int32) (r0 : Int32) (I0 : Nat → Nat → Int32) (A0 : Nat → Nat → Int32) (h : f_X7_second I A a1 a2 = some (r0, I0, A0)) : Fc pR I I0 ∧ Fc pR A A0 := by
  have fI : Fc pR I I := Fc_rf
  have fA : Fc pR A A := Fc_rf
  rw [f_X7_second] at h
  obtain ⟨I1, eI1, h⟩ := bd_e h
  have fI1 : Fc pR I I1 := by rw [eI1]; exact Fc_up fI (show ¬ 318 < 318 by decide)
  obtain ⟨r2, hc3, h⟩ := Option.bind_eq_some_iff.mp h
  by_cases c_4 : r2 = 0
  · have h := ip c_4 h
    cases h; exact ⟨fI1, fA⟩
  · have h := iN c_4 h
    obtain ⟨r5, hc6, h⟩ := Option.bind_eq_some_iff.mp h
    by_cases c_7 : r5 = 0
    · have h := ip c_7 h
      cases h; exact ⟨fI1, fA⟩
    · have h := iN c_7 h
      obtain ⟨⟨I8, A9⟩, hc10, h⟩ := Option.bind_eq_some_iff.mp h
      have fI8 : Fc pR I I8 := Fc_tr fI1 (fr_X7_aside I1 A I8 A9 hc10).1
      have fA9 : Fc pR A A9 := Fc_tr fA (fr_X7_aside I1 A I8 A9 hc10).2
      obtain ⟨⟨I11, A12⟩, hc13, h⟩ := Option.bind_eq_some_iff.mp h
      have fI11 : Fc pR I I11 := Fc_tr fI8 (fr_X7_begins I8 A9 a1 0 I11 A12 hc13).1
      have fA12 : Fc pR A A12 := Fc_tr fA9 (fr_X7_begins I8 A9 a1 0 I11 A12 hc13).2
      obtain ⟨r14, hc15, h⟩ := Option.bind_eq_some_iff.mp h
      obtain ⟨k22, ek22, h⟩ := bd_e h
      have kk22 : ∀ (v23 : Int32) (v24 : Int32) (I25 : Nat → Nat → Int32) (A26 : Nat → Nat → Int32), k22 v23 v24 I25 A26 = some (r0, I0, A0) → Fc pR I I25 → Fc pR A A26 → Fc pR I I0 ∧ Fc pR A A0 := by
        intro v23 v24 I25 A26 h fI25 fA26
        subst ek22
        obtain ⟨j29, ej29, h⟩ := bd_e h
        have kj29 : ∀ (z28 : Int32), j29 z28 = some (r0, I0, A0) → Fc pR I I0 ∧ Fc pR A A0 := by
          intro z28 h
          subst ej29
          obtain ⟨I30, eI30, h⟩ := bd_e h
          have fI30 : Fc pR I I30 := by rw [eI30]; exact Fc_up fI25 (show ¬ 318 < 318 by decide)
          obtain ⟨j34, ej34, h⟩ := bd_e h
          have kj34 : ∀ (z33 : Int32), j34 z33 = some (r0, I0, A0) → Fc pR I I0 ∧ Fc pR A A0 := by
            intro z33 h
            subst ej34
            obtain ⟨k38, ek38, h⟩ := bd_e h
            have kk38 : ∀ (A39 : Nat → Nat → Int32), k38 A39 = some (r0, I0, A0) → Fc pR A A39 → Fc pR I I0 ∧ Fc pR A A0 := by
              intro A39 h fA39
              subst ek38
              obtain ⟨⟨I40, A41⟩, hc42, h⟩ := Option.bind_eq_some_iff.mp h
              have fI40 : Fc pR I I40 := Fc_tr fI30 (fr_X7_aside I30 A39 I40 A41 hc42).1
              have fA41 : Fc pR A A41 := Fc_tr fA39 (fr_X7_aside I30 A39 I40 A41 hc42).2
              cases h; exact ⟨fI40, fA41⟩
            have lp35 : ∀ (n : Nat) (v36 : Int32) (A37 : Nat → Nat → Int32), f_X7_second_L188 z33 v23 I30 k38 n v36 A37 = some (r0, I0, A0) → Fc pR A A37 → Fc pR I I0 ∧ Fc pR A A0 := by
              intro n
              induction n with
              | zero => intro v36 A37 h; exact absurd h (by rw [f_X7_second_L188]; exact nofun)
              | succ n ih35 =>
                intro v36 A37 h fA37
                rw [f_X7_second_L188] at h
                by_cases c_43 : v36 < 6
                · have h := ip c_43 h
                  by_cases c_44 : v23 = (-9)
                  · have h := ip c_44 h
                    exact kk38 A37 h fA37
                  · have h := iN c_44 h
                    obtain ⟨hn45, h⟩ := gk h
                    obtain ⟨hn46, h⟩ := gk h
                    obtain ⟨A47, eA47, h⟩ := bd_e h
                    have fA47 : Fc pR A A47 := by rw [eA47]; exact Fc_up fA37 (show ¬ 363 < 318 by decide)
                    exact ih35 (v36 + 1) A47 h fA47
                · have h := iN c_43 h
                  exact kk38 A37 h fA37
            exact lp35 FU 0 A26 h fA26
          by_cases c_48 : v23 = (-9)
          · have h := ip c_48 h
            by_cases c_49 : v24 = (-9)
            · have h := ip c_49 h
              exact kj34 (-1000000) h
            · have h := iN c_49 h
              exact kj34 (-1000001) h
          · have h := iN c_48 h
            obtain ⟨hn50, h⟩ := gk h
            exact kj34 (A26 341 v23.toNatClampNeg) h
        by_cases c_51 : v23 = (-9)
        · have h := ip c_51 h
          exact kj29 (-9) h
        · have h := iN c_51 h
          obtain ⟨hn52, h⟩ := gk h
          exact kj29 (A26 319 a1.toNatClampNeg) h
      have lp16 : ∀ (n : Nat) (v17 : Int32) (v18 : Int32) (v19 : Int32) (I20 : Nat → Nat → Int32) (A21 : Nat → Nat → Int32), f_X7_second_L49 a1 a2 k22 n v17 v18 v19 I20 A21 = some (r0, I0, A0) → Fc pR I I20 → Fc pR A A21 → Fc pR I I0 ∧ Fc pR A A0 := by
        intro n
        induction n with
        | zero => intro v17 v18 v19 I20 A21 h; exact absurd h (by rw [f_X7_second_L49]; exact nofun)
        | succ n ih16 =>
          intro v17 v18 v19 I20 A21 h fI20 fA21
          rw [f_X7_second_L49] at h
          by_cases c_53 : v17 = (-9)
          · have h := ip c_53 h
            exact kk22 v18 v17 I20 A21 h fI20 fA21
          · have h := iN c_53 h
            by_cases c_54 : (I20 318 31) < 250
            · have h := ip c_54 h
              by_cases c_55 : v18 = (-9)
              · have h := ip c_55 h
                obtain ⟨⟨I56, A57⟩, hc58, h⟩ := Option.bind_eq_some_iff.mp h
                have fI56 : Fc pR I I56 := Fc_tr fI20 (fr_X7_takes I20 A21 v17 I56 A57 hc58).1
                have fA57 : Fc pR A A57 := Fc_tr fA21 (fr_X7_takes I20 A21 v17 I56 A57 hc58).2
                obtain ⟨⟨I59, A60⟩, hc61, h⟩ := Option.bind_eq_some_iff.mp h
                have fI59 : Fc pR I I59 := Fc_tr fI56 (fr_X7_opens I56 A57 a1 v17 0 I59 A60 hc61).1
                have fA60 : Fc pR A A60 := Fc_tr fA57 (fr_X7_opens I56 A57 a1 v17 0 I59 A60 hc61).2
                obtain ⟨hn62, h⟩ := gk h
                obtain ⟨hn63, h⟩ := gk h
                by_cases c_64 : (A60 338 v17.toNatClampNeg) = (A60 319 a1.toNatClampNeg)
                · have h := ip c_64 h
                  by_cases c_67 : v19 = a2
                  · have h := ip c_67 h
                    obtain ⟨r70, hc71, h⟩ := Option.bind_eq_some_iff.mp h
                    exact ih16 r70 v17 (v19 + 1) I59 A60 h fI59 fA60
                  · have h := iN c_67 h
                    obtain ⟨r68, hc69, h⟩ := Option.bind_eq_some_iff.mp h
                    exact ih16 r68 (-9) (v19 + 1) I59 A60 h fI59 fA60
                · have h := iN c_64 h
                  obtain ⟨r65, hc66, h⟩ := Option.bind_eq_some_iff.mp h
                  exact ih16 r65 v18 v19 I59 A60 h fI59 fA60
              · have h := iN c_55 h
                exact kk22 v18 v17 I20 A21 h fI20 fA21
            · have h := iN c_54 h
              exact kk22 v18 v17 I20 A21 h fI20 fA21
      exact lp16 FU r14 (-9) 0 I11 A12 h fI11 fA12
set_option maxHeartbeats 4000000 in
set_option maxRecDepth 100000 in
theorem fr_X7_turnOf (I : Nat → Nat → Int32) (A : Nat → Nat → Int32) (a1 : Int32) (a2 : Int32) (I0 : Nat → Nat → Int32) (A0 : Nat → Nat → Int32) (h : f_X7_turnOf I A a1 a2 = some (I0, A0)) : Fc pR I I0 ∧ Fc pR A A0 := by
  have fI : Fc pR I I := Fc_rf
  have fA : Fc pR A A := Fc_rf
  rw [f_X7_turnOf] at h
  obtain ⟨hn1, h⟩ := gk h
  by_cases c_2 : (A 337 a2.toNatClampNeg) = (-9)
  · have h := ip c_2 h
    obtain ⟨k21, ek21, h⟩ := bd_e h
    have kk21 : ∀ (v22 : Int32), k21 v22 = some (I0, A0) → Fc pR I I0 ∧ Fc pR A A0 := by
      intro v22 h
      subst ek21
      by_cases c_23 : v22 = (-9)
      · have h := ip c_23 h
        obtain ⟨A24, eA24, h⟩ := bd_e h
        have fA24 : Fc pR A A24 := by rw [eA24]; exact Fc_up fA (show ¬ 332 < 318 by decide)
        cases h; exact ⟨fI, fA24⟩
      · have h := iN c_23 h
        by_cases c_25 : ((I 318 30) - (I 318 31)) < 30
        · have h := ip c_25 h
          obtain ⟨A26, eA26, h⟩ := bd_e h
          have fA26 : Fc pR A A26 := by rw [eA26]; exact Fc_up fA (show ¬ 337 < 318 by decide)
          obtain ⟨hn27, h⟩ := gk h
          obtain ⟨A28, eA28, h⟩ := bd_e h
          have fA28 : Fc pR A A28 := by rw [eA28]; exact Fc_up fA26 (show ¬ 343 < 318 by decide)
          obtain ⟨A29, eA29, h⟩ := bd_e h
          have fA29 : Fc pR A A29 := by rw [eA29]; exact Fc_up fA28 (show ¬ 336 < 318 by decide)
          cases h; exact ⟨fI, fA29⟩
        · have h := iN c_25 h
          obtain ⟨A30, eA30, h⟩ := bd_e h
          have fA30 : Fc pR A A30 := by rw [eA30]; exact Fc_up fA (show ¬ 332 < 318 by decide)
          cases h; exact ⟨fI, fA30⟩
    have lp18 : ∀ (n : Nat) (v19 : Int32) (v20 : Int32), f_X7_turnOf_L17 a2 I A k21 n v19 v20 = some (I0, A0) → Fc pR I I0 ∧ Fc pR A A0 := by
      intro n
      induction n with
      | zero => intro v19 v20 h; exact absurd h (by rw [f_X7_turnOf_L17]; exact nofun)
      | succ n ih18 =>
        intro v19 v20 h
        rw [f_X7_turnOf_L17] at h
        by_cases c_31 : v19 < (I 318 29)
        · have h := ip c_31 h
          obtain ⟨hn32, h⟩ := gk h
          by_cases c_33 : (A 343 v19.toNatClampNeg) = (-9)
          · have h := ip c_33 h
            by_cases c_34 : v20 = (-9)
            · have h := ip c_34 h
              exact ih18 (v19 + 1) v19 h
            · have h := iN c_34 h
              obtain ⟨r35, hc36, h⟩ := Option.bind_eq_some_iff.mp h
              by_cases c_37 : r35 = 0
              · have h := ip c_37 h
                exact ih18 (v19 + 1) v20 h
              · have h := iN c_37 h
                exact ih18 (v19 + 1) v19 h
          · have h := iN c_33 h
            exact ih18 (v19 + 1) v20 h
        · have h := iN c_31 h
          exact kk21 v20 h
    exact lp18 FU 0 (-9) h
  · have h := iN c_2 h
    obtain ⟨A3, eA3, h⟩ := bd_e h
    have fA3 : Fc pR A A3 := by rw [eA3]; exact Fc_up fA (show ¬ 337 < 318 by decide)
    by_cases c_4 : 0 < (A3 335 a2.toNatClampNeg)
    · have h := ip c_4 h
      by_cases c_9 : (A3 336 a2.toNatClampNeg) = (A3 335 a2.toNatClampNeg)
      · have h := ip c_9 h
        obtain ⟨hn14, h⟩ := gk h
        obtain ⟨A15, eA15, h⟩ := bd_e h
        have fA15 : Fc pR A A15 := by rw [eA15]; exact Fc_up fA3 (show ¬ 343 < 318 by decide)
        obtain ⟨A16, eA16, h⟩ := bd_e h
        have fA16 : Fc pR A A16 := by rw [eA16]; exact Fc_up fA15 (show ¬ 335 < 318 by decide)
        obtain ⟨A17, eA17, h⟩ := bd_e h
        have fA17 : Fc pR A A17 := by rw [eA17]; exact Fc_up fA16 (show ¬ 333 < 318 by decide)
        cases h; exact ⟨fI, fA17⟩
      · have h := iN c_9 h
        obtain ⟨A10, eA10, h⟩ := bd_e h
        have fA10 : Fc pR A A10 := by rw [eA10]; exact Fc_up fA3 (show ¬ 334 < 318 by decide)
        obtain ⟨⟨I11, A12⟩, hc13, h⟩ := Option.bind_eq_some_iff.mp h
        have fI11 : Fc pR I I11 := Fc_tr fI (fr_X7_opens I A10 a1 (A 337 a2.toNatClampNeg) 1 I11 A12 hc13).1
        have fA12 : Fc pR A A12 := Fc_tr fA10 (fr_X7_opens I A10 a1 (A 337 a2.toNatClampNeg) 1 I11 A12 hc13).2
        cases h; exact ⟨fI11, fA12⟩
    · have h := iN c_4 h
      obtain ⟨A5, eA5, h⟩ := bd_e h
      have fA5 : Fc pR A A5 := by rw [eA5]; exact Fc_up fA3 (show ¬ 334 < 318 by decide)
      obtain ⟨⟨I6, A7⟩, hc8, h⟩ := Option.bind_eq_some_iff.mp h
      have fI6 : Fc pR I I6 := Fc_tr fI (fr_X7_opens I A5 a1 (A 337 a2.toNatClampNeg) 1 I6 A7 hc8).1
      have fA7 : Fc pR A A7 := Fc_tr fA5 (fr_X7_opens I A5 a1 (A 337 a2.toNatClampNeg) 1 I6 A7 hc8).2
      cases h; exact ⟨fI6, fA7⟩
set_option maxHeartbeats 4000000 in
set_option maxRecDepth 100000 in
theorem fr_X7_walks (I : Nat → Nat → Int32) (A : Nat → Nat → Int32) (a1 : Int32) (r0 : Int32) (I0 : Nat → Nat → Int32) (A0 : Nat → Nat → Int32) (h : f_X7_walks I A a1 = some (r0, I0, A0)) : Fc pR I I0 ∧ Fc pR A A0 := by
  have fI : Fc pR I I := Fc_rf
  have fA : Fc pR A A := Fc_rf
  rw [f_X7_walks] at h
  obtain ⟨r1, hc2, h⟩ := Option.bind_eq_some_iff.mp h
  obtain ⟨k7, ek7, h⟩ := bd_e h
  have kk7 : ∀ (I8 : Nat → Nat → Int32) (A9 : Nat → Nat → Int32), k7 I8 A9 = some (r0, I0, A0) → Fc pR I I8 → Fc pR A A9 → Fc pR I I0 ∧ Fc pR A A0 := by
    intro I8 A9 h fI8 fA9
    subst ek7
    cases h; exact ⟨fI8, fA9⟩
  obtain ⟨k10, ek10, h⟩ := bd_e h
  have kk10 : ∀ (I11 : Nat → Nat → Int32) (A12 : Nat → Nat → Int32), k10 I11 A12 = some (r0, I0, A0) → Fc pR I I11 → Fc pR A A12 → Fc pR I I0 ∧ Fc pR A A0 := by
    intro I11 A12 h fI11 fA12
    subst ek10
    cases h; exact ⟨fI11, fA12⟩
  obtain ⟨k13, ek13, h⟩ := bd_e h
  have kk13 : ∀ (I14 : Nat → Nat → Int32) (A15 : Nat → Nat → Int32), k13 I14 A15 = some (r0, I0, A0) → Fc pR I I14 → Fc pR A A15 → Fc pR I I0 ∧ Fc pR A A0 := by
    intro I14 A15 h fI14 fA15
    subst ek13
    cases h; exact ⟨fI14, fA15⟩
  obtain ⟨k16, ek16, h⟩ := bd_e h
  have kk16 : ∀ (v17 : Int32) (I18 : Nat → Nat → Int32) (A19 : Nat → Nat → Int32), k16 v17 I18 A19 = some (r0, I0, A0) → Fc pR I I18 → Fc pR A A19 → Fc pR I I0 ∧ Fc pR A A0 := by
    intro v17 I18 A19 h fI18 fA19
    subst ek16
    by_cases c_20 : v17 = (-9)
    · have h := ip c_20 h
      cases h; exact ⟨fI18, fA19⟩
    · have h := iN c_20 h
      cases h; exact ⟨fI18, fA19⟩
  have lp3 : ∀ (n : Nat) (v4 : Int32) (I5 : Nat → Nat → Int32) (A6 : Nat → Nat → Int32), f_X7_walks_L5 a1 k7 k10 k13 k16 n v4 I5 A6 = some (r0, I0, A0) → Fc pR I I5 → Fc pR A A6 → Fc pR I I0 ∧ Fc pR A A0 := by
    intro n
    induction n with
    | zero => intro v4 I5 A6 h; exact absurd h (by rw [f_X7_walks_L5]; exact nofun)
    | succ n ih3 =>
      intro v4 I5 A6 h fI5 fA6
      rw [f_X7_walks_L5] at h
      by_cases c_21 : v4 = (-9)
      · have h := ip c_21 h
        exact kk16 v4 I5 A6 h fI5 fA6
      · have h := iN c_21 h
        obtain ⟨hn22, h⟩ := gk h
        by_cases c_23 : (A6 344 v4.toNatClampNeg) = 0
        · have h := ip c_23 h
          exact kk16 v4 I5 A6 h fI5 fA6
        · have h := iN c_23 h
          obtain ⟨⟨I24, A25⟩, hc26, h⟩ := Option.bind_eq_some_iff.mp h
          have fI24 : Fc pR I I24 := Fc_tr fI5 (fr_X7_takes I5 A6 v4 I24 A25 hc26).1
          have fA25 : Fc pR A A25 := Fc_tr fA6 (fr_X7_takes I5 A6 v4 I24 A25 hc26).2
          obtain ⟨hn27, h⟩ := gk h
          by_cases c_28 : (A25 338 v4.toNatClampNeg) = (A25 319 a1.toNatClampNeg)
          · have h := ip c_28 h
            exact kk7 I24 A25 h fI24 fA25
          · have h := iN c_28 h
            by_cases c_29 : (I24 318 31) = 250
            · have h := ip c_29 h
              exact kk10 I24 A25 h fI24 fA25
            · have h := iN c_29 h
              by_cases c_30 : (I24 318 31) = (I24 318 24)
              · have h := ip c_30 h
                exact kk13 I24 A25 h fI24 fA25
              · have h := iN c_30 h
                obtain ⟨r31, hc32, h⟩ := Option.bind_eq_some_iff.mp h
                exact ih3 r31 I24 A25 h fI24 fA25
  exact lp3 FU r1 I A h fI fA
set_option maxHeartbeats 4000000 in
set_option maxRecDepth 100000 in
theorem fr_X7_solve (I : Nat → Nat → Int32) (A : Nat → Nat → Int32) (a1 : Int32) (a2 : Int32) (r0 : Int32) (I0 : Nat → Nat → Int32) (A0 : Nat → Nat → Int32) (h : f_X7_solve I A a1 a2 = some (r0, I0, A0)) : Fc pR I I0 ∧ Fc pR A A0 := by
  have fI : Fc pR I I := Fc_rf
  have fA : Fc pR A A := Fc_rf
  rw [f_X7_solve] at h
  obtain ⟨I1, eI1, h⟩ := bd_e h
  have fI1 : Fc pR I I1 := by rw [eI1]; exact Fc_up fI (show ¬ 318 < 318 by decide)
  obtain ⟨r2, hc3, h⟩ := Option.bind_eq_some_iff.mp h
  by_cases c_4 : r2 = 0
  · have h := ip c_4 h
    cases h; exact ⟨fI1, fA⟩
  · have h := iN c_4 h
    obtain ⟨r5, hc6, h⟩ := Option.bind_eq_some_iff.mp h
    by_cases c_7 : r5 = 0
    · have h := ip c_7 h
      cases h; exact ⟨fI1, fA⟩
    · have h := iN c_7 h
      obtain ⟨j9, ej9, h⟩ := bd_e h
      have kj9 : ∀ (_ : Unit), j9 () = some (r0, I0, A0) → Fc pR I I0 ∧ Fc pR A A0 := by
        intro _ h
        subst ej9
        obtain ⟨j33, ej33, h⟩ := bd_e h
        have kj33 : ∀ (I31 : Nat → Nat → Int32) (A32 : Nat → Nat → Int32), j33 I31 A32 = some (r0, I0, A0) → Fc pR I I31 → Fc pR A A32 → Fc pR I I0 ∧ Fc pR A A0 := by
          intro I31 A32 h fI31 fA32
          subst ej33
          obtain ⟨k38, ek38, h⟩ := bd_e h
          have kk38 : ∀ (v39 : Int32) (I40 : Nat → Nat → Int32) (A41 : Nat → Nat → Int32), k38 v39 I40 A41 = some (r0, I0, A0) → Fc pR I I40 → Fc pR A A41 → Fc pR I I0 ∧ Fc pR A A0 := by
            intro v39 I40 A41 h fI40 fA41
            subst ek38
            obtain ⟨⟨I42, A43⟩, hc44, h⟩ := Option.bind_eq_some_iff.mp h
            have fI42 : Fc pR I I42 := Fc_tr fI40 (fr_X7_endsAs I40 A41 a1 v39 I42 A43 hc44).1
            have fA43 : Fc pR A A43 := Fc_tr fA41 (fr_X7_endsAs I40 A41 a1 v39 I42 A43 hc44).2
            cases h; exact ⟨fI42, fA43⟩
          obtain ⟨k45, ek45, h⟩ := bd_e h
          have kk45 : ∀ (I46 : Nat → Nat → Int32) (A47 : Nat → Nat → Int32), k45 I46 A47 = some (r0, I0, A0) → Fc pR I I46 → Fc pR A A47 → Fc pR I I0 ∧ Fc pR A A0 := by
            intro I46 A47 h fI46 fA47
            subst ek45
            cases h; exact ⟨fI46, fA47⟩
          have lp34 : ∀ (n : Nat) (v35 : Int32) (I36 : Nat → Nat → Int32) (A37 : Nat → Nat → Int32), f_X7_solve_L143 a1 a2 k38 k45 n v35 I36 A37 = some (r0, I0, A0) → Fc pR I I36 → Fc pR A A37 → Fc pR I I0 ∧ Fc pR A A0 := by
            intro n
            induction n with
            | zero => intro v35 I36 A37 h; exact absurd h (by rw [f_X7_solve_L143]; exact nofun)
            | succ n ih34 =>
              intro v35 I36 A37 h fI36 fA37
              rw [f_X7_solve_L143] at h
              by_cases c_48 : v35 < a2
              · have h := ip c_48 h
                obtain ⟨j52, ej52, h⟩ := bd_e h
                have kj52 : ∀ (z51 : Int32), j52 z51 = some (r0, I0, A0) → Fc pR I I0 ∧ Fc pR A A0 := by
                  intro z51 h
                  subst ej52
                  obtain ⟨I53, eI53, h⟩ := bd_e h
                  have fI53 : Fc pR I I53 := by rw [eI53]; exact Fc_up fI36 (show ¬ 318 < 318 by decide)
                  by_cases c_54 : z51 < (I53 318 15)
                  · have h := ip c_54 h
                    obtain ⟨⟨I63, A64⟩, hc65, h⟩ := Option.bind_eq_some_iff.mp h
                    have fI63 : Fc pR I I63 := Fc_tr fI53 (fr_X7_turnOf I53 A37 a1 z51 I63 A64 hc65).1
                    have fA64 : Fc pR A A64 := Fc_tr fA37 (fr_X7_turnOf I53 A37 a1 z51 I63 A64 hc65).2
                    obtain ⟨⟨r66, I67, A68⟩, hc69, h⟩ := Option.bind_eq_some_iff.mp h
                    have fI67 : Fc pR I I67 := Fc_tr fI63 (fr_X7_walks I63 A64 a1 r66 I67 A68 hc69).1
                    have fA68 : Fc pR A A68 := Fc_tr fA64 (fr_X7_walks I63 A64 a1 r66 I67 A68 hc69).2
                    by_cases c_70 : 0 < r66
                    · have h := ip c_70 h
                      exact kk38 r66 I67 A68 h fI67 fA68
                    · have h := iN c_70 h
                      exact ih34 (v35 + 1) I67 A68 h fI67 fA68
                  · have h := iN c_54 h
                    obtain ⟨⟨I55, A56⟩, hc57, h⟩ := Option.bind_eq_some_iff.mp h
                    have fI55 : Fc pR I I55 := Fc_tr fI53 (fr_X7_turnOf I53 A37 a1 0 I55 A56 hc57).1
                    have fA56 : Fc pR A A56 := Fc_tr fA37 (fr_X7_turnOf I53 A37 a1 0 I55 A56 hc57).2
                    obtain ⟨⟨r58, I59, A60⟩, hc61, h⟩ := Option.bind_eq_some_iff.mp h
                    have fI59 : Fc pR I I59 := Fc_tr fI55 (fr_X7_walks I55 A56 a1 r58 I59 A60 hc61).1
                    have fA60 : Fc pR A A60 := Fc_tr fA56 (fr_X7_walks I55 A56 a1 r58 I59 A60 hc61).2
                    by_cases c_62 : 0 < r58
                    · have h := ip c_62 h
                      exact kk38 r58 I59 A60 h fI59 fA60
                    · have h := iN c_62 h
                      exact ih34 (v35 + 1) I59 A60 h fI59 fA60
                by_cases c_71 : (I36 318 28) < (I36 318 18)
                · have h := ip c_71 h
                  obtain ⟨hn73, h⟩ := gk h
                  exact kj52 (A37 331 ((I36 318 28).toNatClampNeg)) h
                · have h := iN c_71 h
                  obtain ⟨hz72, h⟩ := gk h
                  exact kj52 (((I36 318 28) - (I36 318 18)) - ((I36 318 28) - (I36 318 18)) / (I36 318 15) * (I36 318 15)) h
              · have h := iN c_48 h
                exact kk45 I36 A37 h fI36 fA37
          exact lp34 FU 0 I31 A32 h fI31 fA32
        by_cases c_74 : (I1 318 23) = (-9)
        · have h := ip c_74 h
          obtain ⟨I75, eI75, h⟩ := bd_e h
          have fI75 : Fc pR I I75 := by rw [eI75]; exact Fc_up fI1 (show ¬ 318 < 318 by decide)
          obtain ⟨I76, eI76, h⟩ := bd_e h
          have fI76 : Fc pR I I76 := by rw [eI76]; exact Fc_up fI75 (show ¬ 318 < 318 by decide)
          obtain ⟨I77, eI77, h⟩ := bd_e h
          have fI77 : Fc pR I I77 := by rw [eI77]; exact Fc_up fI76 (show ¬ 318 < 318 by decide)
          obtain ⟨k81, ek81, h⟩ := bd_e h
          have kk81 : ∀ (A82 : Nat → Nat → Int32), k81 A82 = some (r0, I0, A0) → Fc pR A A82 → Fc pR I I0 ∧ Fc pR A A0 := by
            intro A82 h fA82
            subst ek81
            obtain ⟨⟨I83, A84⟩, hc85, h⟩ := Option.bind_eq_some_iff.mp h
            have fI83 : Fc pR I I83 := Fc_tr fI77 (fr_X7_begins I77 A82 a1 1 I83 A84 hc85).1
            have fA84 : Fc pR A A84 := Fc_tr fA82 (fr_X7_begins I77 A82 a1 1 I83 A84 hc85).2
            by_cases c_86 : (I83 318 29) = 0
            · have h := ip c_86 h
              obtain ⟨⟨I87, A88⟩, hc89, h⟩ := Option.bind_eq_some_iff.mp h
              have fI87 : Fc pR I I87 := Fc_tr fI83 (fr_X7_endsAs I83 A84 a1 2 I87 A88 hc89).1
              have fA88 : Fc pR A A88 := Fc_tr fA84 (fr_X7_endsAs I83 A84 a1 2 I87 A88 hc89).2
              cases h; exact ⟨fI87, fA88⟩
            · have h := iN c_86 h
              exact kj33 I83 A84 h fI83 fA84
          have lp78 : ∀ (n : Nat) (v79 : Int32) (A80 : Nat → Nat → Int32), f_X7_solve_L75 a1 a2 I77 k81 n v79 A80 = some (r0, I0, A0) → Fc pR A A80 → Fc pR I I0 ∧ Fc pR A A0 := by
            intro n
            induction n with
            | zero => intro v79 A80 h; exact absurd h (by rw [f_X7_solve_L75]; exact nofun)
            | succ n ih78 =>
              intro v79 A80 h fA80
              rw [f_X7_solve_L75] at h
              by_cases c_90 : v79 < 5
              · have h := ip c_90 h
                obtain ⟨hn91, h⟩ := gk h
                obtain ⟨A92, eA92, h⟩ := bd_e h
                have fA92 : Fc pR A A92 := by rw [eA92]; exact Fc_up fA80 (show ¬ 335 < 318 by decide)
                obtain ⟨A93, eA93, h⟩ := bd_e h
                have fA93 : Fc pR A A93 := by rw [eA93]; exact Fc_up fA92 (show ¬ 336 < 318 by decide)
                obtain ⟨A94, eA94, h⟩ := bd_e h
                have fA94 : Fc pR A A94 := by rw [eA94]; exact Fc_up fA93 (show ¬ 334 < 318 by decide)
                obtain ⟨A95, eA95, h⟩ := bd_e h
                have fA95 : Fc pR A A95 := by rw [eA95]; exact Fc_up fA94 (show ¬ 337 < 318 by decide)
                exact ih78 (v79 + 1) A95 h fA95
              · have h := iN c_90 h
                exact kk81 A80 h fA80
          exact lp78 FU 0 A h fA
        · have h := iN c_74 h
          exact kj33 I1 A h fI1 fA
      by_cases c_96 : (I1 318 23) = (-9)
      · have h := ip c_96 h
        exact kj9 () h
      · have h := iN c_96 h
        by_cases c_97 : (I1 318 23) = a1
        · have h := ip c_97 h
          exact kj9 () h
        · have h := iN c_97 h
          cases h; exact ⟨fI1, fA⟩
set_option maxHeartbeats 4000000 in
set_option maxRecDepth 100000 in
theorem fr_X7_status (I : Nat → Nat → Int32) (r0 : Int32) (I0 : Nat → Nat → Int32) (h : f_X7_status I = some (r0, I0)) : Fc pR I I0 := by
  have fI : Fc pR I I := Fc_rf
  rw [f_X7_status] at h
  obtain ⟨I1, eI1, h⟩ := bd_e h
  have fI1 : Fc pR I I1 := by rw [eI1]; exact Fc_up fI (show ¬ 318 < 318 by decide)
  cases h; exact fI1
set_option maxHeartbeats 4000000 in
set_option maxRecDepth 100000 in
theorem fr_X7_told (I : Nat → Nat → Int32) (A : Nat → Nat → Int32) (a1 : Int32) (a2 : Int32) (r0 : Int32) (I0 : Nat → Nat → Int32) (h : f_X7_told I A a1 a2 = some (r0, I0)) : Fc pR I I0 := by
  have fI : Fc pR I I := Fc_rf
  have fA : Fc pR A A := Fc_rf
  rw [f_X7_told] at h
  obtain ⟨I1, eI1, h⟩ := bd_e h
  have fI1 : Fc pR I I1 := by rw [eI1]; exact Fc_up fI (show ¬ 318 < 318 by decide)
  obtain ⟨r2, hc3, h⟩ := Option.bind_eq_some_iff.mp h
  by_cases c_4 : r2 = 0
  · have h := ip c_4 h
    cases h; exact fI1
  · have h := iN c_4 h
    obtain ⟨r5, hc6, h⟩ := Option.bind_eq_some_iff.mp h
    by_cases c_7 : r5 = 0
    · have h := ip c_7 h
      cases h; exact fI1
    · have h := iN c_7 h
      obtain ⟨hn8, h⟩ := gk h
      by_cases c_9 : (A 351 a1.toNatClampNeg) = 0
      · have h := ip c_9 h
        cases h; exact fI1
      · have h := iN c_9 h
        obtain ⟨hn10, h⟩ := gk h
        cases h; exact fI1
set_option maxHeartbeats 4000000 in
set_option maxRecDepth 100000 in
theorem fr_X7_turn (I : Nat → Nat → Int32) (A : Nat → Nat → Int32) (a1 : Int32) (r0 : Int32) (I0 : Nat → Nat → Int32) (A0 : Nat → Nat → Int32) (h : f_X7_turn I A a1 = some (r0, I0, A0)) : Fc pR I I0 ∧ Fc pR A A0 := by
  have fI : Fc pR I I := Fc_rf
  have fA : Fc pR A A := Fc_rf
  rw [f_X7_turn] at h
  obtain ⟨I1, eI1, h⟩ := bd_e h
  have fI1 : Fc pR I I1 := by rw [eI1]; exact Fc_up fI (show ¬ 318 < 318 by decide)
  obtain ⟨r2, hc3, h⟩ := Option.bind_eq_some_iff.mp h
  by_cases c_4 : r2 = 0
  · have h := ip c_4 h
    cases h; exact ⟨fI1, fA⟩
  · have h := iN c_4 h
    by_cases c_5 : (I1 318 23) = (-9)
    · have h := ip c_5 h
      by_cases c_6 : (I1 318 18) = 200
      · have h := ip c_6 h
        cases h; exact ⟨fI1, fA⟩
      · have h := iN c_6 h
        obtain ⟨hn7, h⟩ := gk h
        obtain ⟨A8, eA8, h⟩ := bd_e h
        have fA8 : Fc pR A A8 := by rw [eA8]; exact Fc_up fA (show ¬ 331 < 318 by decide)
        obtain ⟨I9, eI9, h⟩ := bd_e h
        have fI9 : Fc pR I I9 := by rw [eI9]; exact Fc_up fI1 (show ¬ 318 < 318 by decide)
        cases h; exact ⟨fI9, fA8⟩
    · have h := iN c_5 h
      cases h; exact ⟨fI1, fA⟩
set_option maxHeartbeats 4000000 in
set_option maxRecDepth 100000 in
theorem fr_X7_variable (I : Nat → Nat → Int32) (A : Nat → Nat → Int32) (a1 : Int32) (a2 : Int32) (a3 : Int32) (r0 : Int32) (I0 : Nat → Nat → Int32) (A0 : Nat → Nat → Int32) (h : f_X7_variable I A a1 a2 a3 = some (r0, I0, A0)) : Fc pR I I0 ∧ Fc pR A A0 := by
  have fI : Fc pR I I := Fc_rf
  have fA : Fc pR A A := Fc_rf
  rw [f_X7_variable] at h
  obtain ⟨I1, eI1, h⟩ := bd_e h
  have fI1 : Fc pR I I1 := by rw [eI1]; exact Fc_up fI (show ¬ 318 < 318 by decide)
  obtain ⟨r2, hc3, h⟩ := Option.bind_eq_some_iff.mp h
  by_cases c_4 : r2 = 0
  · have h := ip c_4 h
    cases h; exact ⟨fI1, fA⟩
  · have h := iN c_4 h
    obtain ⟨r5, hc6, h⟩ := Option.bind_eq_some_iff.mp h
    by_cases c_7 : r5 = 0
    · have h := ip c_7 h
      cases h; exact ⟨fI1, fA⟩
    · have h := iN c_7 h
      obtain ⟨r8, hc9, h⟩ := Option.bind_eq_some_iff.mp h
      by_cases c_10 : r8 = 0
      · have h := ip c_10 h
        cases h; exact ⟨fI1, fA⟩
      · have h := iN c_10 h
        by_cases c_11 : (I1 318 23) = (-9)
        · have h := ip c_11 h
          obtain ⟨hn12, h⟩ := gk h
          by_cases c_13 : (A 319 a1.toNatClampNeg) = 6
          · have h := ip c_13 h
            cases h; exact ⟨fI1, fA⟩
          · have h := iN c_13 h
            obtain ⟨hn14, h⟩ := gk h
            obtain ⟨A15, eA15, h⟩ := bd_e h
            have fA15 : Fc pR A A15 := by rw [eA15]; exact Fc_up fA (show ¬ 321 < 318 by decide)
            obtain ⟨A16, eA16, h⟩ := bd_e h
            have fA16 : Fc pR A A16 := by rw [eA16]; exact Fc_up fA15 (show ¬ 322 < 318 by decide)
            obtain ⟨A17, eA17, h⟩ := bd_e h
            have fA17 : Fc pR A A17 := by rw [eA17]; exact Fc_up fA16 (show ¬ 319 < 318 by decide)
            obtain ⟨⟨I18, A19⟩, hc20, h⟩ := Option.bind_eq_some_iff.mp h
            have fI18 : Fc pR I I18 := Fc_tr fI1 (fr_X7_changes I1 A17 a1 I18 A19 hc20).1
            have fA19 : Fc pR A A19 := Fc_tr fA17 (fr_X7_changes I1 A17 a1 I18 A19 hc20).2
            cases h; exact ⟨fI18, fA19⟩
        · have h := iN c_11 h
          cases h; exact ⟨fI1, fA⟩
set_option maxHeartbeats 4000000 in
set_option maxRecDepth 100000 in
theorem fr_X7_walked (I : Nat → Nat → Int32) (A : Nat → Nat → Int32) (a1 : Int32) (a2 : Int32) (r0 : Int32) (I0 : Nat → Nat → Int32) (h : f_X7_walked I A a1 a2 = some (r0, I0)) : Fc pR I I0 := by
  have fI : Fc pR I I := Fc_rf
  have fA : Fc pR A A := Fc_rf
  rw [f_X7_walked] at h
  obtain ⟨I1, eI1, h⟩ := bd_e h
  have fI1 : Fc pR I I1 := by rw [eI1]; exact Fc_up fI (show ¬ 318 < 318 by decide)
  obtain ⟨r2, hc3, h⟩ := Option.bind_eq_some_iff.mp h
  by_cases c_4 : r2 = 0
  · have h := ip c_4 h
    cases h; exact fI1
  · have h := iN c_4 h
    obtain ⟨r5, hc6, h⟩ := Option.bind_eq_some_iff.mp h
    by_cases c_7 : r5 = 0
    · have h := ip c_7 h
      cases h; exact fI1
    · have h := iN c_7 h
      by_cases c_8 : a2 = 0
      · have h := ip c_8 h
        obtain ⟨hn16, h⟩ := gk h
        cases h; exact fI1
      · have h := iN c_8 h
        by_cases c_9 : a2 < 7
        · have h := ip c_9 h
          obtain ⟨hn15, h⟩ := gk h
          cases h; exact fI1
        · have h := iN c_9 h
          by_cases c_10 : a2 = 7
          · have h := ip c_10 h
            obtain ⟨hn14, h⟩ := gk h
            cases h; exact fI1
          · have h := iN c_10 h
            by_cases c_11 : a2 = 8
            · have h := ip c_11 h
              obtain ⟨hn13, h⟩ := gk h
              cases h; exact fI1
            · have h := iN c_11 h
              obtain ⟨hn12, h⟩ := gk h
              cases h; exact fI1
set_option maxHeartbeats 4000000 in
set_option maxRecDepth 100000 in
theorem fr_X7_with (I : Nat → Nat → Int32) (A : Nat → Nat → Int32) (a1 : Int32) (r0 : Int32) (I0 : Nat → Nat → Int32) (A0 : Nat → Nat → Int32) (h : f_X7_with I A a1 = some (r0, I0, A0)) : Fc pR I I0 ∧ Fc pR A A0 := by
  have fI : Fc pR I I := Fc_rf
  have fA : Fc pR A A := Fc_rf
  rw [f_X7_with] at h
  obtain ⟨I1, eI1, h⟩ := bd_e h
  have fI1 : Fc pR I I1 := by rw [eI1]; exact Fc_up fI (show ¬ 318 < 318 by decide)
  by_cases c_2 : (I1 318 57) = (-9)
  · have h := ip c_2 h
    cases h; exact ⟨fI1, fA⟩
  · have h := iN c_2 h
    obtain ⟨hn3, h⟩ := gk h
    by_cases c_4 : (I1 318 59) = (A 319 ((I1 318 57).toNatClampNeg))
    · have h := ip c_4 h
      cases h; exact ⟨fI1, fA⟩
    · have h := iN c_4 h
      obtain ⟨hn5, h⟩ := gk h
      obtain ⟨r6, hc7, h⟩ := Option.bind_eq_some_iff.mp h
      by_cases c_8 : r6 = 0
      · have h := ip c_8 h
        cases h; exact ⟨fI1, fA⟩
      · have h := iN c_8 h
        obtain ⟨hn9, h⟩ := gk h
        obtain ⟨A10, eA10, h⟩ := bd_e h
        have fA10 : Fc pR A A10 := by rw [eA10]; exact Fc_up fA (show ¬ 362 < 318 by decide)
        obtain ⟨I11, eI11, h⟩ := bd_e h
        have fI11 : Fc pR I I11 := by rw [eI11]; exact Fc_up fI1 (show ¬ 318 < 318 by decide)
        cases h; exact ⟨fI11, fA10⟩
