/-! part 94.out -/
/-! THE TIE: nothing is written behind an array's end (laid by gen94.py) -/
def Fo (F0 F : Nat → Nat → Int32) : Prop := ∀ j m, 319 ≤ j → ln j ≤ m → F j m = F0 j m
theorem Fo_rf {F : Nat → Nat → Int32} : Fo F F := fun _ _ _ _ => rfl
theorem Fo_tr {F0 F1 F2 : Nat → Nat → Int32} (h : Fo F0 F1) (k : Fo F1 F2) : Fo F0 F2 := fun j m a b => (k j m a b).trans (h j m a b)
theorem Fo_up {F0 F : Nat → Nat → Int32} {s k : Nat} {v : Int32} (h : Fo F0 F) (hs : s < 319 ∨ k < ln s) : Fo F0 (up2 F s k v) := fun j m a b => by
  unfold up2
  rw [if_neg (fun q => by
    obtain ⟨rfl, rfl⟩ := q
    omega)]
  exact h j m a b
theorem il {v : Int32} {N s : Nat} (h : inr v N) (e : ln s = N) : v.toNatClampNeg < ln s := by
  rw [e]
  exact Nat.lt_of_not_le (fun q => h (Or.inr q))
theorem l_319 : ln 319 = 5 := by decide +kernel
theorem l_320 : ln 320 = 5 := by decide +kernel
theorem l_321 : ln 321 = 30 := by decide +kernel
theorem l_322 : ln 322 = 30 := by decide +kernel
theorem l_323 : ln 323 = 180 := by decide +kernel
theorem l_324 : ln 324 = 40 := by decide +kernel
theorem l_325 : ln 325 = 40 := by decide +kernel
theorem l_326 : ln 326 = 40 := by decide +kernel
theorem l_327 : ln 327 = 240 := by decide +kernel
theorem l_328 : ln 328 = 240 := by decide +kernel
theorem l_329 : ln 329 = 5 := by decide +kernel
theorem l_330 : ln 330 = 5 := by decide +kernel
theorem l_331 : ln 331 = 200 := by decide +kernel
theorem l_332 : ln 332 = 5 := by decide +kernel
theorem l_333 : ln 333 = 5 := by decide +kernel
theorem l_334 : ln 334 = 5 := by decide +kernel
theorem l_335 : ln 335 = 5 := by decide +kernel
theorem l_336 : ln 336 = 5 := by decide +kernel
theorem l_337 : ln 337 = 5 := by decide +kernel
theorem l_338 : ln 338 = 2000 := by decide +kernel
theorem l_339 : ln 339 = 12000 := by decide +kernel
theorem l_340 : ln 340 = 2000 := by decide +kernel
theorem l_341 : ln 341 = 2000 := by decide +kernel
theorem l_342 : ln 342 = 2000 := by decide +kernel
theorem l_343 : ln 343 = 2000 := by decide +kernel
theorem l_344 : ln 344 = 2000 := by decide +kernel
theorem l_345 : ln 345 = 2000 := by decide +kernel
theorem l_346 : ln 346 = 250 := by decide +kernel
theorem l_347 : ln 347 = 12000 := by decide +kernel
theorem l_348 : ln 348 = 12000 := by decide +kernel
theorem l_349 : ln 349 = 2000 := by decide +kernel
theorem l_350 : ln 350 = 30 := by decide +kernel
theorem l_351 : ln 351 = 5 := by decide +kernel
theorem l_352 : ln 352 = 5 := by decide +kernel
theorem l_353 : ln 353 = 30 := by decide +kernel
theorem l_354 : ln 354 = 250 := by decide +kernel
theorem l_355 : ln 355 = 1500 := by decide +kernel
theorem l_356 : ln 356 = 250 := by decide +kernel
theorem l_357 : ln 357 = 250 := by decide +kernel
theorem l_358 : ln 358 = 250 := by decide +kernel
theorem l_359 : ln 359 = 250 := by decide +kernel
theorem l_360 : ln 360 = 1500 := by decide +kernel
theorem l_361 : ln 361 = 1500 := by decide +kernel
theorem l_362 : ln 362 = 6 := by decide +kernel
theorem l_363 : ln 363 = 6 := by decide +kernel
theorem l_364 : ln 364 = 6 := by decide +kernel
theorem l_365 : ln 365 = 3 := by decide +kernel
set_option maxHeartbeats 4000000 in
set_option maxRecDepth 100000 in
theorem qo_X7_no (I : Nat → Nat → Int32) (a1 : Int32) (r0 : Int32) (I0 : Nat → Nat → Int32) (h : f_X7_no I a1 = some (r0, I0)) : Fo I I0 := by
  have fI : Fo I I := Fo_rf
  rw [f_X7_no] at h
  obtain ⟨I1, eI1, h⟩ := bd_e h
  have fI1 : Fo I I1 := by rw [eI1]; exact Fo_up fI (Or.inl (by decide))
  cases h; exact fI1
set_option maxHeartbeats 4000000 in
set_option maxRecDepth 100000 in
theorem qo_X7_about (I : Nat → Nat → Int32) (A : Nat → Nat → Int32) (a1 : Int32) (a2 : Int32) (a3 : Int32) (r0 : Int32) (I0 : Nat → Nat → Int32) (h : f_X7_about I A a1 a2 a3 = some (r0, I0)) : Fo I I0 := by
  have fI : Fo I I := Fo_rf
  have fA : Fo A A := Fo_rf
  rw [f_X7_about] at h
  obtain ⟨I1, eI1, h⟩ := bd_e h
  have fI1 : Fo I I1 := by rw [eI1]; exact Fo_up fI (Or.inl (by decide))
  obtain ⟨I2, eI2, h⟩ := bd_e h
  have fI2 : Fo I I2 := by rw [eI2]; exact Fo_up fI1 (Or.inl (by decide))
  obtain ⟨r3, hc4, h⟩ := Option.bind_eq_some_iff.mp h
  by_cases c_5 : r3 = 0
  · have h := ip c_5 h
    obtain ⟨⟨r6, I7⟩, hc8, h⟩ := Option.bind_eq_some_iff.mp h
    have fI7 : Fo I I7 := Fo_tr fI2 (qo_X7_no I2 (-1) r6 I7 hc8)
    cases h; exact fI7
  · have h := iN c_5 h
    obtain ⟨r9, hc10, h⟩ := Option.bind_eq_some_iff.mp h
    by_cases c_11 : r9 = 0
    · have h := ip c_11 h
      obtain ⟨⟨r38, I39⟩, hc40, h⟩ := Option.bind_eq_some_iff.mp h
      have fI39 : Fo I I39 := Fo_tr fI2 (qo_X7_no I2 (-1) r38 I39 hc40)
      cases h; exact fI39
    · have h := iN c_11 h
      by_cases c_12 : a2 = 0
      · have h := ip c_12 h
        obtain ⟨hn37, h⟩ := gk h
        cases h; exact fI2
      · have h := iN c_12 h
        by_cases c_13 : a2 = 1
        · have h := ip c_13 h
          obtain ⟨hn36, h⟩ := gk h
          cases h; exact fI2
        · have h := iN c_13 h
          by_cases c_14 : a2 < 5
          · have h := ip c_14 h
            obtain ⟨r25, hc26, h⟩ := Option.bind_eq_some_iff.mp h
            by_cases c_27 : r25 = 0
            · have h := ip c_27 h
              obtain ⟨⟨r33, I34⟩, hc35, h⟩ := Option.bind_eq_some_iff.mp h
              have fI34 : Fo I I34 := Fo_tr fI2 (qo_X7_no I2 (-1) r33 I34 hc35)
              cases h; exact fI34
            · have h := iN c_27 h
              by_cases c_28 : a2 = 2
              · have h := ip c_28 h
                obtain ⟨hn32, h⟩ := gk h
                cases h; exact fI2
              · have h := iN c_28 h
                by_cases c_29 : a2 = 3
                · have h := ip c_29 h
                  obtain ⟨hn31, h⟩ := gk h
                  cases h; exact fI2
                · have h := iN c_29 h
                  obtain ⟨hn30, h⟩ := gk h
                  cases h; exact fI2
          · have h := iN c_14 h
            obtain ⟨hn15, h⟩ := gk h
            obtain ⟨r16, hc17, h⟩ := Option.bind_eq_some_iff.mp h
            by_cases c_18 : r16 = 0
            · have h := ip c_18 h
              obtain ⟨⟨r22, I23⟩, hc24, h⟩ := Option.bind_eq_some_iff.mp h
              have fI23 : Fo I I23 := Fo_tr fI2 (qo_X7_no I2 (-1) r22 I23 hc24)
              cases h; exact fI23
            · have h := iN c_18 h
              by_cases c_19 : a2 = 5
              · have h := ip c_19 h
                obtain ⟨hn21, h⟩ := gk h
                cases h; exact fI2
              · have h := iN c_19 h
                obtain ⟨hn20, h⟩ := gk h
                cases h; exact fI2
set_option maxHeartbeats 4000000 in
set_option maxRecDepth 100000 in
theorem qo_X7_addNode (I : Nat → Nat → Int32) (A : Nat → Nat → Int32) (a1 : Int32) (a2 : Int32) (I0 : Nat → Nat → Int32) (A0 : Nat → Nat → Int32) (h : f_X7_addNode I A a1 a2 = some (I0, A0)) : Fo I I0 ∧ Fo A A0 := by
  have fI : Fo I I := Fo_rf
  have fA : Fo A A := Fo_rf
  rw [f_X7_addNode] at h
  obtain ⟨I1, eI1, h⟩ := bd_e h
  have fI1 : Fo I I1 := by rw [eI1]; exact Fo_up fI (Or.inl (by decide))
  obtain ⟨hn2, h⟩ := gk h
  obtain ⟨A3, eA3, h⟩ := bd_e h
  have fA3 : Fo A A3 := by rw [eA3]; exact Fo_up fA (by first | exact Or.inr (il (show inr _ 2000 by assumption) l_338) | (rw [l_338]; exact Or.inr (by decide)))
  obtain ⟨A4, eA4, h⟩ := bd_e h
  have fA4 : Fo A A4 := by rw [eA4]; exact Fo_up fA3 (by first | exact Or.inr (il (show inr _ 2000 by assumption) l_342) | (rw [l_342]; exact Or.inr (by decide)))
  obtain ⟨A5, eA5, h⟩ := bd_e h
  have fA5 : Fo A A5 := by rw [eA5]; exact Fo_up fA4 (by first | exact Or.inr (il (show inr _ 2000 by assumption) l_341) | (rw [l_341]; exact Or.inr (by decide)))
  obtain ⟨A6, eA6, h⟩ := bd_e h
  have fA6 : Fo A A6 := by rw [eA6]; exact Fo_up fA5 (by first | exact Or.inr (il (show inr _ 2000 by assumption) l_343) | (rw [l_343]; exact Or.inr (by decide)))
  obtain ⟨A7, eA7, h⟩ := bd_e h
  have fA7 : Fo A A7 := by rw [eA7]; exact Fo_up fA6 (by first | exact Or.inr (il (show inr _ 2000 by assumption) l_344) | (rw [l_344]; exact Or.inr (by decide)))
  obtain ⟨A8, eA8, h⟩ := bd_e h
  have fA8 : Fo A A8 := by rw [eA8]; exact Fo_up fA7 (by first | exact Or.inr (il (show inr _ 2000 by assumption) l_345) | (rw [l_345]; exact Or.inr (by decide)))
  obtain ⟨A9, eA9, h⟩ := bd_e h
  have fA9 : Fo A A9 := by rw [eA9]; exact Fo_up fA8 (by first | exact Or.inr (il (show inr _ 2000 by assumption) l_349) | (rw [l_349]; exact Or.inr (by decide)))
  obtain ⟨k15, ek15, h⟩ := bd_e h
  have kk15 : ∀ (v16 : Int32) (v17 : Int32) (A18 : Nat → Nat → Int32), k15 v16 v17 A18 = some (I0, A0) → Fo A A18 → Fo I I0 ∧ Fo A A0 := by
    intro v16 v17 A18 h fA18
    subst ek15
    obtain ⟨hn19, h⟩ := gk h
    obtain ⟨A20, eA20, h⟩ := bd_e h
    have fA20 : Fo A A20 := by rw [eA20]; exact Fo_up fA18 (by first | exact Or.inr (il (show inr _ 2000 by assumption) l_340) | (rw [l_340]; exact Or.inr (by decide)))
    cases h; exact ⟨fI1, fA20⟩
  have lp10 : ∀ (n : Nat) (v11 : Int32) (v12 : Int32) (v13 : Int32) (A14 : Nat → Nat → Int32), f_X7_addNode_L74 a1 I1 k15 n v11 v12 v13 A14 = some (I0, A0) → Fo A A14 → Fo I I0 ∧ Fo A A0 := by
    intro n
    induction n with
    | zero => intro v11 v12 v13 A14 h; exact absurd h (by rw [f_X7_addNode_L74]; exact nofun)
    | succ n ih10 =>
      intro v11 v12 v13 A14 h fA14
      rw [f_X7_addNode_L74] at h
      by_cases c_21 : v11 < 6
      · have h := ip c_21 h
        obtain ⟨j24, ej24, h⟩ := bd_e h
        have kj24 : ∀ (z23 : Int32), j24 z23 = some (I0, A0) → Fo I I0 ∧ Fo A A0 := by
          intro z23 h
          subst ej24
          obtain ⟨hn25, h⟩ := gk h
          obtain ⟨A26, eA26, h⟩ := bd_e h
          have fA26 : Fo A A26 := by rw [eA26]; exact Fo_up fA14 (by first | exact Or.inr (il (show inr _ 12000 by assumption) l_339) | (rw [l_339]; exact Or.inr (by decide)))
          by_cases c_27 : v11 < a1
          · have h := ip c_27 h
            obtain ⟨hn28, h⟩ := gk h
            exact ih10 (v11 + 1) ((7 * v12) + ((A26 364 v11.toNatClampNeg) + 1)) v13 A26 h fA26
          · have h := iN c_27 h
            exact ih10 (v11 + 1) ((7 * v12) + 0) v13 A26 h fA26
        by_cases c_29 : v11 < a1
        · have h := ip c_29 h
          obtain ⟨hn30, h⟩ := gk h
          exact kj24 (A14 364 v11.toNatClampNeg) h
        · have h := iN c_29 h
          exact kj24 (-9) h
      · have h := iN c_21 h
        exact kk15 v13 v12 A14 h fA14
  exact lp10 FU 0 0 (I 318 29) A9 h fA9
set_option maxHeartbeats 4000000 in
set_option maxRecDepth 100000 in
theorem qo_X7_answer (I : Nat → Nat → Int32) (A : Nat → Nat → Int32) (a1 : Int32) (a2 : Int32) (r0 : Int32) (I0 : Nat → Nat → Int32) (h : f_X7_answer I A a1 a2 = some (r0, I0)) : Fo I I0 := by
  have fI : Fo I I := Fo_rf
  have fA : Fo A A := Fo_rf
  rw [f_X7_answer] at h
  obtain ⟨I1, eI1, h⟩ := bd_e h
  have fI1 : Fo I I1 := by rw [eI1]; exact Fo_up fI (Or.inl (by decide))
  obtain ⟨r2, hc3, h⟩ := Option.bind_eq_some_iff.mp h
  by_cases c_4 : r2 = 0
  · have h := ip c_4 h
    cases h; exact fI1
  · have h := iN c_4 h
    obtain ⟨hn5, h⟩ := gk h
    obtain ⟨r6, hc7, h⟩ := Option.bind_eq_some_iff.mp h
    by_cases c_8 : r6 = 0
    · have h := ip c_8 h
      cases h; exact fI1
    · have h := iN c_8 h
      by_cases c_9 : (A 352 a1.toNatClampNeg) = 0
      · have h := ip c_9 h
        cases h; exact fI1
      · have h := iN c_9 h
        obtain ⟨hn10, h⟩ := gk h
        cases h; exact fI1
set_option maxHeartbeats 4000000 in
set_option maxRecDepth 100000 in
theorem qo_X7_swap (A : Nat → Nat → Int32) (s0 : Nat) (s1 : Nat) (A0 : Nat → Nat → Int32) (h : f_X7_swap A s0 s1 = some A0) : Fo A A0 := by
  have fA : Fo A A := Fo_rf
  rw [f_X7_swap] at h
  obtain ⟨k4, ek4, h⟩ := bd_e h
  have kk4 : ∀ (A5 : Nat → Nat → Int32), k4 A5 = some A0 → Fo A A5 → Fo A A0 := by
    intro A5 h fA5
    subst ek4
    cases h; exact fA5
  have lp1 : ∀ (n : Nat) (v2 : Int32) (A3 : Nat → Nat → Int32), f_X7_swap_L2 s0 s1 k4 n v2 A3 = some A0 → Fo A A3 → Fo A A0 := by
    intro n
    induction n with
    | zero => intro v2 A3 h; exact absurd h (by rw [f_X7_swap_L2]; exact nofun)
    | succ n ih1 =>
      intro v2 A3 h fA3
      rw [f_X7_swap_L2] at h
      obtain ⟨hk6, h⟩ := gk h
      by_cases c_7 : v2 < (nI (ln s0))
      · have h := ip c_7 h
        obtain ⟨hn8, h⟩ := gk h
        obtain ⟨hk9, h⟩ := gk h
        obtain ⟨hn10, h⟩ := gk h
        obtain ⟨A11, eA11, h⟩ := bd_e h
        have fA11 : Fo A A11 := by rw [eA11]; exact Fo_up fA3 (Or.inr (il (show inr _ (ln _) by assumption) rfl))
        obtain ⟨A12, eA12, h⟩ := bd_e h
        have fA12 : Fo A A12 := by rw [eA12]; exact Fo_up fA11 (Or.inr (il (show inr _ (ln _) by assumption) rfl))
        exact ih1 (v2 + 1) A12 h fA12
      · have h := iN c_7 h
        exact kk4 A3 h fA3
  exact lp1 FU 0 A h fA
set_option maxHeartbeats 4000000 in
set_option maxRecDepth 100000 in
theorem qo_X7_turnRound (A : Nat → Nat → Int32) (s0 : Nat) (s1 : Nat) (A0 : Nat → Nat → Int32) (h : f_X7_turnRound A s0 s1 = some A0) : Fo A A0 := by
  have fA : Fo A A := Fo_rf
  rw [f_X7_turnRound] at h
  obtain ⟨k4, ek4, h⟩ := bd_e h
  have kk4 : ∀ (A5 : Nat → Nat → Int32), k4 A5 = some A0 → Fo A A5 → Fo A A0 := by
    intro A5 h fA5
    subst ek4
    cases h; exact fA5
  have lp1 : ∀ (n : Nat) (v2 : Int32) (A3 : Nat → Nat → Int32), f_X7_turnRound_L2 s0 s1 k4 n v2 A3 = some A0 → Fo A A3 → Fo A A0 := by
    intro n
    induction n with
    | zero => intro v2 A3 h; exact absurd h (by rw [f_X7_turnRound_L2]; exact nofun)
    | succ n ih1 =>
      intro v2 A3 h fA3
      rw [f_X7_turnRound_L2] at h
      obtain ⟨hk6, h⟩ := gk h
      by_cases c_7 : v2 < (nI (ln s0))
      · have h := ip c_7 h
        obtain ⟨hn8, h⟩ := gk h
        obtain ⟨hk9, h⟩ := gk h
        obtain ⟨hn10, h⟩ := gk h
        obtain ⟨A11, eA11, h⟩ := bd_e h
        have fA11 : Fo A A11 := by rw [eA11]; exact Fo_up fA3 (Or.inr (il (show inr _ (ln _) by assumption) rfl))
        obtain ⟨A12, eA12, h⟩ := bd_e h
        have fA12 : Fo A A12 := by rw [eA12]; exact Fo_up fA11 (Or.inr (il (show inr _ (ln _) by assumption) rfl))
        exact ih1 (v2 + 1) A12 h fA12
      · have h := iN c_7 h
        exact kk4 A3 h fA3
  exact lp1 FU 0 A h fA
set_option maxHeartbeats 4000000 in
set_option maxRecDepth 100000 in
theorem qo_X7_aside (I : Nat → Nat → Int32) (A : Nat → Nat → Int32) (I0 : Nat → Nat → Int32) (A0 : Nat → Nat → Int32) (h : f_X7_aside I A = some (I0, A0)) : Fo I I0 ∧ Fo A A0 := by
  have fI : Fo I I := Fo_rf
  have fA : Fo A A := Fo_rf
  rw [f_X7_aside] at h
  obtain ⟨I1, eI1, h⟩ := bd_e h
  have fI1 : Fo I I1 := by rw [eI1]; exact Fo_up fI (Or.inl (by decide))
  obtain ⟨I2, eI2, h⟩ := bd_e h
  have fI2 : Fo I I2 := by rw [eI2]; exact Fo_up fI1 (Or.inl (by decide))
  obtain ⟨I3, eI3, h⟩ := bd_e h
  have fI3 : Fo I I3 := by rw [eI3]; exact Fo_up fI2 (Or.inl (by decide))
  obtain ⟨A4, eA4, h⟩ := bd_e h
  have fA4 : Fo A A4 := by rw [eA4]; exact Fo_up fA (by first | exact Or.inr (il (show inr _ 3 by assumption) l_365) | (rw [l_365]; exact Or.inr (by decide)))
  obtain ⟨A5, eA5, h⟩ := bd_e h
  have fA5 : Fo A A5 := by rw [eA5]; exact Fo_up fA4 (by first | exact Or.inr (il (show inr _ 3 by assumption) l_365) | (rw [l_365]; exact Or.inr (by decide)))
  obtain ⟨A6, eA6, h⟩ := bd_e h
  have fA6 : Fo A A6 := by rw [eA6]; exact Fo_up fA5 (by first | exact Or.inr (il (show inr _ 3 by assumption) l_365) | (rw [l_365]; exact Or.inr (by decide)))
  obtain ⟨A7, hc8, h⟩ := Option.bind_eq_some_iff.mp h
  have fA7 : Fo A A7 := Fo_tr fA6 (qo_X7_swap A6 338 366 A7 hc8)
  obtain ⟨A9, hc10, h⟩ := Option.bind_eq_some_iff.mp h
  have fA9 : Fo A A9 := Fo_tr fA7 (qo_X7_swap A7 339 367 A9 hc10)
  obtain ⟨A11, hc12, h⟩ := Option.bind_eq_some_iff.mp h
  have fA11 : Fo A A11 := Fo_tr fA9 (qo_X7_swap A9 340 368 A11 hc12)
  obtain ⟨A13, hc14, h⟩ := Option.bind_eq_some_iff.mp h
  have fA13 : Fo A A13 := Fo_tr fA11 (qo_X7_swap A11 341 369 A13 hc14)
  obtain ⟨A15, hc16, h⟩ := Option.bind_eq_some_iff.mp h
  have fA15 : Fo A A15 := Fo_tr fA13 (qo_X7_swap A13 342 370 A15 hc16)
  obtain ⟨A17, hc18, h⟩ := Option.bind_eq_some_iff.mp h
  have fA17 : Fo A A17 := Fo_tr fA15 (qo_X7_swap A15 343 371 A17 hc18)
  obtain ⟨A19, hc20, h⟩ := Option.bind_eq_some_iff.mp h
  have fA19 : Fo A A19 := Fo_tr fA17 (qo_X7_turnRound A17 344 372 A19 hc20)
  obtain ⟨A21, hc22, h⟩ := Option.bind_eq_some_iff.mp h
  have fA21 : Fo A A21 := Fo_tr fA19 (qo_X7_turnRound A19 345 373 A21 hc22)
  obtain ⟨A23, hc24, h⟩ := Option.bind_eq_some_iff.mp h
  have fA23 : Fo A A23 := Fo_tr fA21 (qo_X7_swap A21 346 374 A23 hc24)
  obtain ⟨A25, hc26, h⟩ := Option.bind_eq_some_iff.mp h
  have fA25 : Fo A A25 := Fo_tr fA23 (qo_X7_swap A23 347 375 A25 hc26)
  obtain ⟨A27, hc28, h⟩ := Option.bind_eq_some_iff.mp h
  have fA27 : Fo A A27 := Fo_tr fA25 (qo_X7_swap A25 348 376 A27 hc28)
  obtain ⟨A29, hc30, h⟩ := Option.bind_eq_some_iff.mp h
  have fA29 : Fo A A29 := Fo_tr fA27 (qo_X7_swap A27 349 377 A29 hc30)
  cases h; exact ⟨fI3, fA29⟩
set_option maxHeartbeats 4000000 in
set_option maxRecDepth 100000 in
theorem qo_X7_ask (I : Nat → Nat → Int32) (A : Nat → Nat → Int32) (a1 : Int32) (r0 : Int32) (I0 : Nat → Nat → Int32) (h : f_X7_ask I A a1 = some (r0, I0)) : Fo I I0 := by
  have fI : Fo I I := Fo_rf
  have fA : Fo A A := Fo_rf
  rw [f_X7_ask] at h
  obtain ⟨I1, eI1, h⟩ := bd_e h
  have fI1 : Fo I I1 := by rw [eI1]; exact Fo_up fI (Or.inl (by decide))
  obtain ⟨r2, hc3, h⟩ := Option.bind_eq_some_iff.mp h
  by_cases c_4 : r2 = 0
  · have h := ip c_4 h
    cases h; exact fI1
  · have h := iN c_4 h
    obtain ⟨I5, eI5, h⟩ := bd_e h
    have fI5 : Fo I I5 := by rw [eI5]; exact Fo_up fI1 (Or.inl (by decide))
    obtain ⟨hn6, h⟩ := gk h
    obtain ⟨I7, eI7, h⟩ := bd_e h
    have fI7 : Fo I I7 := by rw [eI7]; exact Fo_up fI5 (Or.inl (by decide))
    obtain ⟨I8, eI8, h⟩ := bd_e h
    have fI8 : Fo I I8 := by rw [eI8]; exact Fo_up fI7 (Or.inl (by decide))
    cases h; exact fI8
set_option maxHeartbeats 4000000 in
set_option maxRecDepth 100000 in
theorem qo_X7_isOut (A : Nat → Nat → Int32) (a1 : Int32) (a2 : Int32) (a3 : Int32) (r0 : Int32) (A0 : Nat → Nat → Int32) (h : f_X7_isOut A a1 a2 a3 = some (r0, A0)) : Fo A A0 := by
  have fA : Fo A A := Fo_rf
  rw [f_X7_isOut] at h
  obtain ⟨hn1, h⟩ := gk h
  obtain ⟨A2, eA2, h⟩ := bd_e h
  have fA2 : Fo A A2 := by rw [eA2]; exact Fo_up fA (by first | exact Or.inr (il (show inr _ 6 by assumption) l_364) | (rw [l_364]; exact Or.inr (by decide)))
  obtain ⟨r3, hc4, h⟩ := Option.bind_eq_some_iff.mp h
  by_cases c_5 : r3 = (-9)
  · have h := ip c_5 h
    obtain ⟨A6, eA6, h⟩ := bd_e h
    have fA6 : Fo A A6 := by rw [eA6]; exact Fo_up fA2 (by first | exact Or.inr (il (show inr _ 6 by assumption) l_364) | (rw [l_364]; exact Or.inr (by decide)))
    cases h; exact fA6
  · have h := iN c_5 h
    obtain ⟨A7, eA7, h⟩ := bd_e h
    have fA7 : Fo A A7 := by rw [eA7]; exact Fo_up fA2 (by first | exact Or.inr (il (show inr _ 6 by assumption) l_364) | (rw [l_364]; exact Or.inr (by decide)))
    cases h; exact fA7
set_option maxHeartbeats 4000000 in
set_option maxRecDepth 100000 in
theorem qo_X7_whatIs (I : Nat → Nat → Int32) (A : Nat → Nat → Int32) (a1 : Int32) (a2 : Int32) (a3 : Int32) (r0 : Int32) (I0 : Nat → Nat → Int32) (A0 : Nat → Nat → Int32) (h : f_X7_whatIs I A a1 a2 a3 = some (r0, I0, A0)) : Fo I I0 ∧ Fo A A0 := by
  have fI : Fo I I := Fo_rf
  have fA : Fo A A := Fo_rf
  rw [f_X7_whatIs] at h
  obtain ⟨r1, hc2, h⟩ := Option.bind_eq_some_iff.mp h
  obtain ⟨I3, eI3, h⟩ := bd_e h
  have fI3 : Fo I I3 := by rw [eI3]; exact Fo_up fI (Or.inl (by decide))
  by_cases c_4 : (I3 318 64) = (-9)
  · have h := ip c_4 h
    obtain ⟨k7, ek7, h⟩ := bd_e h
    have kk7 : ∀ (v8 : Int32), k7 v8 = some (r0, I0, A0) → Fo I I0 ∧ Fo A A0 := by
      intro v8 h
      subst ek7
      obtain ⟨I9, eI9, h⟩ := bd_e h
      have fI9 : Fo I I9 := by rw [eI9]; exact Fo_up fI3 (Or.inl (by decide))
      cases h; exact ⟨fI9, fA⟩
    obtain ⟨k10, ek10, h⟩ := bd_e h
    have kk10 : ∀ (_ : Unit), k10 () = some (r0, I0, A0) → Fo I I0 ∧ Fo A A0 := by
      intro _ h
      subst ek10
      obtain ⟨I11, eI11, h⟩ := bd_e h
      have fI11 : Fo I I11 := by rw [eI11]; exact Fo_up fI3 (Or.inl (by decide))
      obtain ⟨k16, ek16, h⟩ := bd_e h
      have kk16 : ∀ (v17 : Int32) (I18 : Nat → Nat → Int32) (A19 : Nat → Nat → Int32), k16 v17 I18 A19 = some (r0, I0, A0) → Fo I I18 → Fo A A19 → Fo I I0 ∧ Fo A A0 := by
        intro v17 I18 A19 h fI18 fA19
        subst ek16
        obtain ⟨I20, eI20, h⟩ := bd_e h
        have fI20 : Fo I I20 := by rw [eI20]; exact Fo_up fI18 (Or.inl (by decide))
        cases h; exact ⟨fI20, fA19⟩
      obtain ⟨k21, ek21, h⟩ := bd_e h
      have kk21 : ∀ (I22 : Nat → Nat → Int32) (A23 : Nat → Nat → Int32), k21 I22 A23 = some (r0, I0, A0) → Fo I I22 → Fo A A23 → Fo I I0 ∧ Fo A A0 := by
        intro I22 A23 h fI22 fA23
        subst ek21
        cases h; exact ⟨fI22, fA23⟩
      have lp12 : ∀ (n : Nat) (v13 : Int32) (I14 : Nat → Nat → Int32) (A15 : Nat → Nat → Int32), f_X7_whatIs_L88 a1 a2 k16 k21 n v13 I14 A15 = some (r0, I0, A0) → Fo I I14 → Fo A A15 → Fo I I0 ∧ Fo A A0 := by
        intro n
        induction n with
        | zero => intro v13 I14 A15 h; exact absurd h (by rw [f_X7_whatIs_L88]; exact nofun)
        | succ n ih12 =>
          intro v13 I14 A15 h fI14 fA15
          rw [f_X7_whatIs_L88] at h
          obtain ⟨hn24, h⟩ := gk h
          by_cases c_25 : v13 < (A15 319 a1.toNatClampNeg)
          · have h := ip c_25 h
            by_cases c_26 : v13 < a2
            · have h := ip c_26 h
              obtain ⟨hn50, h⟩ := gk h
              obtain ⟨r51, hc52, h⟩ := Option.bind_eq_some_iff.mp h
              obtain ⟨I53, eI53, h⟩ := bd_e h
              have fI53 : Fo I I53 := by rw [eI53]; exact Fo_up fI14 (Or.inl (by decide))
              exact ih12 (v13 + 1) I53 A15 h fI53 fA15
            · have h := iN c_26 h
              obtain ⟨k31, ek31, h⟩ := bd_e h
              have kk31 : ∀ (v32 : Int32) (A33 : Nat → Nat → Int32), k31 v32 A33 = some (r0, I0, A0) → Fo A A33 → Fo I I0 ∧ Fo A A0 := by
                intro v32 A33 h fA33
                subst ek31
                by_cases c_34 : v32 = (-9)
                · have h := ip c_34 h
                  exact kk16 v13 I14 A33 h fI14 fA33
                · have h := iN c_34 h
                  obtain ⟨r35, hc36, h⟩ := Option.bind_eq_some_iff.mp h
                  obtain ⟨I37, eI37, h⟩ := bd_e h
                  have fI37 : Fo I I37 := by rw [eI37]; exact Fo_up fI14 (Or.inl (by decide))
                  exact ih12 (v13 + 1) I37 A33 h fI37 fA33
              have lp27 : ∀ (n : Nat) (v28 : Int32) (v29 : Int32) (A30 : Nat → Nat → Int32), f_X7_whatIs_L138 v13 a1 a2 I14 k31 n v28 v29 A30 = some (r0, I0, A0) → Fo A A30 → Fo I I0 ∧ Fo A A0 := by
                intro n
                induction n with
                | zero => intro v28 v29 A30 h; exact absurd h (by rw [f_X7_whatIs_L138]; exact nofun)
                | succ n ih27 =>
                  intro v28 v29 A30 h fA30
                  rw [f_X7_whatIs_L138] at h
                  obtain ⟨hn38, h⟩ := gk h
                  by_cases c_39 : v28 < (A30 321 (((6 * a1) + v13).toNatClampNeg))
                  · have h := ip c_39 h
                    obtain ⟨⟨r40, A41⟩, hc42, h⟩ := Option.bind_eq_some_iff.mp h
                    have fA41 : Fo A A41 := Fo_tr fA30 (qo_X7_isOut A30 a1 v13 v28 r40 A41 hc42)
                    by_cases c_43 : r40 = 0
                    · have h := ip c_43 h
                      by_cases c_44 : v29 = (-9)
                      · have h := ip c_44 h
                        exact ih27 (v28 + 1) v28 A41 h fA41
                      · have h := iN c_44 h
                        obtain ⟨r45, hc46, h⟩ := Option.bind_eq_some_iff.mp h
                        obtain ⟨r47, hc48, h⟩ := Option.bind_eq_some_iff.mp h
                        by_cases c_49 : r45 < r47
                        · have h := ip c_49 h
                          exact ih27 (v28 + 1) v28 A41 h fA41
                        · have h := iN c_49 h
                          exact ih27 (v28 + 1) v29 A41 h fA41
                    · have h := iN c_43 h
                      exact ih27 (v28 + 1) v29 A41 h fA41
                  · have h := iN c_39 h
                    exact kk31 v29 A30 h fA30
              exact lp27 FU 0 (-9) A15 h fA15
          · have h := iN c_25 h
            exact kk21 I14 A15 h fI14 fA15
      exact lp12 FU 0 I11 A h fI11 fA
    have lp5 : ∀ (n : Nat) (v6 : Int32), f_X7_whatIs_L23 a1 a2 a3 I3 A k7 k10 n v6 = some (r0, I0, A0) → Fo I I0 ∧ Fo A A0 := by
      intro n
      induction n with
      | zero => intro v6 h; exact absurd h (by rw [f_X7_whatIs_L23]; exact nofun)
      | succ n ih5 =>
        intro v6 h
        rw [f_X7_whatIs_L23] at h
        by_cases c_54 : (v6 + 1) < a2
        · have h := ip c_54 h
          by_cases c_55 : a3 = 0
          · have h := ip c_55 h
            exact kk10 () h
          · have h := iN c_55 h
            obtain ⟨hn56, h⟩ := gk h
            obtain ⟨hn57, h⟩ := gk h
            by_cases c_58 : (A 364 ((a2 - 1).toNatClampNeg)) < (A 364 v6.toNatClampNeg)
            · have h := ip c_58 h
              obtain ⟨r59, hc60, h⟩ := Option.bind_eq_some_iff.mp h
              by_cases c_61 : r59 = 0
              · have h := ip c_61 h
                exact ih5 (v6 + 1) h
              · have h := iN c_61 h
                exact kk7 v6 h
            · have h := iN c_58 h
              exact ih5 (v6 + 1) h
        · have h := iN c_54 h
          exact kk10 () h
    exact lp5 FU 0 h
  · have h := iN c_4 h
    cases h; exact ⟨fI3, fA⟩
set_option maxHeartbeats 4000000 in
set_option maxRecDepth 100000 in
theorem qo_X7_begins (I : Nat → Nat → Int32) (A : Nat → Nat → Int32) (a1 : Int32) (a2 : Int32) (I0 : Nat → Nat → Int32) (A0 : Nat → Nat → Int32) (h : f_X7_begins I A a1 a2 = some (I0, A0)) : Fo I I0 ∧ Fo A A0 := by
  have fI : Fo I I := Fo_rf
  have fA : Fo A A := Fo_rf
  rw [f_X7_begins] at h
  obtain ⟨I1, eI1, h⟩ := bd_e h
  have fI1 : Fo I I1 := by rw [eI1]; exact Fo_up fI (Or.inl (by decide))
  obtain ⟨I2, eI2, h⟩ := bd_e h
  have fI2 : Fo I I2 := by rw [eI2]; exact Fo_up fI1 (Or.inl (by decide))
  obtain ⟨I3, eI3, h⟩ := bd_e h
  have fI3 : Fo I I3 := by rw [eI3]; exact Fo_up fI2 (Or.inl (by decide))
  obtain ⟨k7, ek7, h⟩ := bd_e h
  have kk7 : ∀ (A8 : Nat → Nat → Int32), k7 A8 = some (I0, A0) → Fo A A8 → Fo I I0 ∧ Fo A A0 := by
    intro A8 h fA8
    subst ek7
    obtain ⟨⟨r9, I10, A11⟩, hc12, h⟩ := Option.bind_eq_some_iff.mp h
    have fI10 : Fo I I10 := Fo_tr fI3 (qo_X7_whatIs I3 A8 a1 0 a2 r9 I10 A11 hc12).1
    have fA11 : Fo A A11 := Fo_tr fA8 (qo_X7_whatIs I3 A8 a1 0 a2 r9 I10 A11 hc12).2
    by_cases c_13 : r9 = 0
    · have h := ip c_13 h
      obtain ⟨⟨I14, A15⟩, hc16, h⟩ := Option.bind_eq_some_iff.mp h
      have fI14 : Fo I I14 := Fo_tr fI10 (qo_X7_addNode I10 A11 0 (-9) I14 A15 hc16).1
      have fA15 : Fo A A15 := Fo_tr fA11 (qo_X7_addNode I10 A11 0 (-9) I14 A15 hc16).2
      cases h; exact ⟨fI14, fA15⟩
    · have h := iN c_13 h
      cases h; exact ⟨fI10, fA11⟩
  have lp4 : ∀ (n : Nat) (v5 : Int32) (A6 : Nat → Nat → Int32), f_X7_begins_L17 a1 a2 I3 k7 n v5 A6 = some (I0, A0) → Fo A A6 → Fo I I0 ∧ Fo A A0 := by
    intro n
    induction n with
    | zero => intro v5 A6 h; exact absurd h (by rw [f_X7_begins_L17]; exact nofun)
    | succ n ih4 =>
      intro v5 A6 h fA6
      rw [f_X7_begins_L17] at h
      by_cases c_17 : v5 < 6
      · have h := ip c_17 h
        obtain ⟨hn18, h⟩ := gk h
        obtain ⟨A19, eA19, h⟩ := bd_e h
        have fA19 : Fo A A19 := by rw [eA19]; exact Fo_up fA6 (by first | exact Or.inr (il (show inr _ 6 by assumption) l_364) | (rw [l_364]; exact Or.inr (by decide)))
        exact ih4 (v5 + 1) A19 h fA19
      · have h := iN c_17 h
        exact kk7 A6 h fA6
  exact lp4 FU 0 A h fA
set_option maxHeartbeats 4000000 in
set_option maxRecDepth 100000 in
theorem qo_X7_changes (I : Nat → Nat → Int32) (A : Nat → Nat → Int32) (a1 : Int32) (I0 : Nat → Nat → Int32) (A0 : Nat → Nat → Int32) (h : f_X7_changes I A a1 = some (I0, A0)) : Fo I I0 ∧ Fo A A0 := by
  have fI : Fo I I := Fo_rf
  have fA : Fo A A := Fo_rf
  rw [f_X7_changes] at h
  obtain ⟨I1, eI1, h⟩ := bd_e h
  have fI1 : Fo I I1 := by rw [eI1]; exact Fo_up fI (Or.inl (by decide))
  obtain ⟨hn2, h⟩ := gk h
  obtain ⟨A3, eA3, h⟩ := bd_e h
  have fA3 : Fo A A3 := by rw [eA3]; exact Fo_up fA (by first | exact Or.inr (il (show inr _ 5 by assumption) l_329) | (rw [l_329]; exact Or.inr (by decide)))
  obtain ⟨A4, eA4, h⟩ := bd_e h
  have fA4 : Fo A A4 := by rw [eA4]; exact Fo_up fA3 (by first | exact Or.inr (il (show inr _ 5 by assumption) l_351) | (rw [l_351]; exact Or.inr (by decide)))
  obtain ⟨A5, eA5, h⟩ := bd_e h
  have fA5 : Fo A A5 := by rw [eA5]; exact Fo_up fA4 (by first | exact Or.inr (il (show inr _ 5 by assumption) l_352) | (rw [l_352]; exact Or.inr (by decide)))
  cases h; exact ⟨fI1, fA5⟩
set_option maxHeartbeats 4000000 in
set_option maxRecDepth 100000 in
theorem qo_X7_closed (I : Nat → Nat → Int32) (A : Nat → Nat → Int32) (a1 : Int32) (a2 : Int32) (a3 : Int32) (r0 : Int32) (I0 : Nat → Nat → Int32) (h : f_X7_closed I A a1 a2 a3 = some (r0, I0)) : Fo I I0 := by
  have fI : Fo I I := Fo_rf
  have fA : Fo A A := Fo_rf
  rw [f_X7_closed] at h
  obtain ⟨I1, eI1, h⟩ := bd_e h
  have fI1 : Fo I I1 := by rw [eI1]; exact Fo_up fI (Or.inl (by decide))
  obtain ⟨r2, hc3, h⟩ := Option.bind_eq_some_iff.mp h
  by_cases c_4 : r2 = 0
  · have h := ip c_4 h
    cases h; exact fI1
  · have h := iN c_4 h
    obtain ⟨r5, hc6, h⟩ := Option.bind_eq_some_iff.mp h
    by_cases c_7 : r5 = 0
    · have h := ip c_7 h
      cases h; exact fI1
    · have h := iN c_7 h
      obtain ⟨hn8, h⟩ := gk h
      obtain ⟨r9, hc10, h⟩ := Option.bind_eq_some_iff.mp h
      by_cases c_11 : r9 = 0
      · have h := ip c_11 h
        cases h; exact fI1
      · have h := iN c_11 h
        by_cases c_12 : a3 = 0
        · have h := ip c_12 h
          obtain ⟨hn14, h⟩ := gk h
          cases h; exact fI1
        · have h := iN c_12 h
          obtain ⟨hn13, h⟩ := gk h
          cases h; exact fI1
set_option maxHeartbeats 4000000 in
set_option maxRecDepth 100000 in
theorem qo_X7_cost (I : Nat → Nat → Int32) (A : Nat → Nat → Int32) (a1 : Int32) (a2 : Int32) (a3 : Int32) (a4 : Int32) (r0 : Int32) (I0 : Nat → Nat → Int32) (A0 : Nat → Nat → Int32) (h : f_X7_cost I A a1 a2 a3 a4 = some (r0, I0, A0)) : Fo I I0 ∧ Fo A A0 := by
  have fI : Fo I I := Fo_rf
  have fA : Fo A A := Fo_rf
  rw [f_X7_cost] at h
  obtain ⟨I1, eI1, h⟩ := bd_e h
  have fI1 : Fo I I1 := by rw [eI1]; exact Fo_up fI (Or.inl (by decide))
  obtain ⟨I2, eI2, h⟩ := bd_e h
  have fI2 : Fo I I2 := by rw [eI2]; exact Fo_up fI1 (Or.inl (by decide))
  obtain ⟨r3, hc4, h⟩ := Option.bind_eq_some_iff.mp h
  by_cases c_5 : r3 = 0
  · have h := ip c_5 h
    obtain ⟨⟨r6, I7⟩, hc8, h⟩ := Option.bind_eq_some_iff.mp h
    have fI7 : Fo I I7 := Fo_tr fI2 (qo_X7_no I2 (-1) r6 I7 hc8)
    cases h; exact ⟨fI7, fA⟩
  · have h := iN c_5 h
    obtain ⟨r9, hc10, h⟩ := Option.bind_eq_some_iff.mp h
    by_cases c_11 : r9 = 0
    · have h := ip c_11 h
      obtain ⟨⟨r29, I30⟩, hc31, h⟩ := Option.bind_eq_some_iff.mp h
      have fI30 : Fo I I30 := Fo_tr fI2 (qo_X7_no I2 (-1) r29 I30 hc31)
      cases h; exact ⟨fI30, fA⟩
    · have h := iN c_11 h
      by_cases c_12 : (I2 318 23) = (-9)
      · have h := ip c_12 h
        obtain ⟨hn13, h⟩ := gk h
        obtain ⟨j17, ej17, h⟩ := bd_e h
        have kj17 : ∀ (z16 : Int32), j17 z16 = some (r0, I0, A0) → Fo I I0 ∧ Fo A A0 := by
          intro z16 h
          subst ej17
          obtain ⟨hn18, h⟩ := gk h
          obtain ⟨A19, eA19, h⟩ := bd_e h
          have fA19 : Fo A A19 := by rw [eA19]; exact Fo_up fA (by first | exact Or.inr (il (show inr _ 180 by assumption) l_323) | (rw [l_323]; exact Or.inr (by decide)))
          obtain ⟨⟨I20, A21⟩, hc22, h⟩ := Option.bind_eq_some_iff.mp h
          have fI20 : Fo I I20 := Fo_tr fI2 (qo_X7_changes I2 A19 a1 I20 A21 hc22).1
          have fA21 : Fo A A21 := Fo_tr fA19 (qo_X7_changes I2 A19 a1 I20 A21 hc22).2
          cases h; exact ⟨fI20, fA21⟩
        by_cases c_23 : (A 322 (((6 * a1) + a2).toNatClampNeg)) = 0
        · have h := ip c_23 h
          exact kj17 a4.toInt8.toInt32 h
        · have h := iN c_23 h
          by_cases c_24 : (A 322 (((6 * a1) + a2).toNatClampNeg)) = 1
          · have h := ip c_24 h
            exact kj17 a4.toInt16.toInt32 h
          · have h := iN c_24 h
            by_cases c_25 : (A 322 (((6 * a1) + a2).toNatClampNeg)) = 2
            · have h := ip c_25 h
              exact kj17 (a4 &&& 65535) h
            · have h := iN c_25 h
              exact kj17 a4 h
      · have h := iN c_12 h
        obtain ⟨⟨r26, I27⟩, hc28, h⟩ := Option.bind_eq_some_iff.mp h
        have fI27 : Fo I I27 := Fo_tr fI2 (qo_X7_no I2 (-2) r26 I27 hc28)
        cases h; exact ⟨fI27, fA⟩
set_option maxHeartbeats 4000000 in
set_option maxRecDepth 100000 in
theorem qo_X7_costs (I : Nat → Nat → Int32) (A : Nat → Nat → Int32) (a1 : Int32) (a2 : Int32) (a3 : Int32) (r0 : Int32) (I0 : Nat → Nat → Int32) (h : f_X7_costs I A a1 a2 a3 = some (r0, I0)) : Fo I I0 := by
  have fI : Fo I I := Fo_rf
  have fA : Fo A A := Fo_rf
  rw [f_X7_costs] at h
  obtain ⟨I1, eI1, h⟩ := bd_e h
  have fI1 : Fo I I1 := by rw [eI1]; exact Fo_up fI (Or.inl (by decide))
  obtain ⟨I2, eI2, h⟩ := bd_e h
  have fI2 : Fo I I2 := by rw [eI2]; exact Fo_up fI1 (Or.inl (by decide))
  obtain ⟨r3, hc4, h⟩ := Option.bind_eq_some_iff.mp h
  by_cases c_5 : r3 = 0
  · have h := ip c_5 h
    obtain ⟨⟨r6, I7⟩, hc8, h⟩ := Option.bind_eq_some_iff.mp h
    have fI7 : Fo I I7 := Fo_tr fI2 (qo_X7_no I2 (-1) r6 I7 hc8)
    cases h; exact fI7
  · have h := iN c_5 h
    obtain ⟨r9, hc10, h⟩ := Option.bind_eq_some_iff.mp h
    cases h; exact fI2
set_option maxHeartbeats 4000000 in
set_option maxRecDepth 100000 in
theorem qo_X7_count (I : Nat → Nat → Int32) (a1 : Int32) (r0 : Int32) (I0 : Nat → Nat → Int32) (h : f_X7_count I a1 = some (r0, I0)) : Fo I I0 := by
  have fI : Fo I I := Fo_rf
  rw [f_X7_count] at h
  obtain ⟨I1, eI1, h⟩ := bd_e h
  have fI1 : Fo I I1 := by rw [eI1]; exact Fo_up fI (Or.inl (by decide))
  rcases sw_7 a1 with hs2 | hs2 | hs2 | hs2 | hs2 | hs2 | hs2 | hs2 | hs2
  · have h := ip hs2 h
    cases h; exact fI1
  · have h := iN (by rw [hs2]; decide) h
    have h := ip hs2 h
    cases h; exact fI1
  · have h := iN (by rw [hs2]; decide) h
    have h := iN (by rw [hs2]; decide) h
    have h := ip hs2 h
    cases h; exact fI1
  · have h := iN (by rw [hs2]; decide) h
    have h := iN (by rw [hs2]; decide) h
    have h := iN (by rw [hs2]; decide) h
    have h := ip hs2 h
    cases h; exact fI1
  · have h := iN (by rw [hs2]; decide) h
    have h := iN (by rw [hs2]; decide) h
    have h := iN (by rw [hs2]; decide) h
    have h := iN (by rw [hs2]; decide) h
    have h := ip hs2 h
    cases h; exact fI1
  · have h := iN (by rw [hs2]; decide) h
    have h := iN (by rw [hs2]; decide) h
    have h := iN (by rw [hs2]; decide) h
    have h := iN (by rw [hs2]; decide) h
    have h := iN (by rw [hs2]; decide) h
    have h := ip hs2 h
    by_cases c_3 : (I1 318 23) = (-9)
    · have h := ip c_3 h
      cases h; exact fI1
    · have h := iN c_3 h
      cases h; exact fI1
  · have h := iN (by rw [hs2]; decide) h
    have h := iN (by rw [hs2]; decide) h
    have h := iN (by rw [hs2]; decide) h
    have h := iN (by rw [hs2]; decide) h
    have h := iN (by rw [hs2]; decide) h
    have h := iN (by rw [hs2]; decide) h
    have h := ip hs2 h
    by_cases c_4 : (I1 318 23) = (-9)
    · have h := ip c_4 h
      cases h; exact fI1
    · have h := iN c_4 h
      cases h; exact fI1
  · have h := iN (by rw [hs2]; decide) h
    have h := iN (by rw [hs2]; decide) h
    have h := iN (by rw [hs2]; decide) h
    have h := iN (by rw [hs2]; decide) h
    have h := iN (by rw [hs2]; decide) h
    have h := iN (by rw [hs2]; decide) h
    have h := iN (by rw [hs2]; decide) h
    have h := ip hs2 h
    by_cases c_5 : (I1 318 23) = (-9)
    · have h := ip c_5 h
      cases h; exact fI1
    · have h := iN c_5 h
      cases h; exact fI1
  · have h := iN (fun q => by rw [q] at hs2; exact absurd hs2 (by decide)) h
    have h := iN (fun q => by rw [q] at hs2; exact absurd hs2 (by decide)) h
    have h := iN (fun q => by rw [q] at hs2; exact absurd hs2 (by decide)) h
    have h := iN (fun q => by rw [q] at hs2; exact absurd hs2 (by decide)) h
    have h := iN (fun q => by rw [q] at hs2; exact absurd hs2 (by decide)) h
    have h := iN (fun q => by rw [q] at hs2; exact absurd hs2 (by decide)) h
    have h := iN (fun q => by rw [q] at hs2; exact absurd hs2 (by decide)) h
    have h := iN (fun q => by rw [q] at hs2; exact absurd hs2 (by decide)) h
    cases h; exact fI1
set_option maxHeartbeats 4000000 in
set_option maxRecDepth 100000 in
theorem qo_X7_endsAs (I : Nat → Nat → Int32) (A : Nat → Nat → Int32) (a1 : Int32) (a2 : Int32) (I0 : Nat → Nat → Int32) (A0 : Nat → Nat → Int32) (h : f_X7_endsAs I A a1 a2 = some (I0, A0)) : Fo I I0 ∧ Fo A A0 := by
  have fI : Fo I I := Fo_rf
  have fA : Fo A A := Fo_rf
  rw [f_X7_endsAs] at h
  obtain ⟨r1, hc2, h⟩ := Option.bind_eq_some_iff.mp h
  obtain ⟨j5, ej5, h⟩ := bd_e h
  have kj5 : ∀ (z4 : Int32), j5 z4 = some (I0, A0) → Fo I I0 ∧ Fo A A0 := by
    intro z4 h
    subst ej5
    obtain ⟨hn6, h⟩ := gk h
    obtain ⟨A7, eA7, h⟩ := bd_e h
    have fA7 : Fo A A7 := by rw [eA7]; exact Fo_up fA (by first | exact Or.inr (il (show inr _ 30 by assumption) l_350) | (rw [l_350]; exact Or.inr (by decide)))
    obtain ⟨hn8, h⟩ := gk h
    obtain ⟨A9, eA9, h⟩ := bd_e h
    have fA9 : Fo A A9 := by rw [eA9]; exact Fo_up fA7 (by first | exact Or.inr (il (show inr _ 30 by assumption) l_350) | (rw [l_350]; exact Or.inr (by decide)))
    obtain ⟨hn10, h⟩ := gk h
    obtain ⟨A11, eA11, h⟩ := bd_e h
    have fA11 : Fo A A11 := by rw [eA11]; exact Fo_up fA9 (by first | exact Or.inr (il (show inr _ 30 by assumption) l_350) | (rw [l_350]; exact Or.inr (by decide)))
    obtain ⟨hn12, h⟩ := gk h
    obtain ⟨A13, eA13, h⟩ := bd_e h
    have fA13 : Fo A A13 := by rw [eA13]; exact Fo_up fA11 (by first | exact Or.inr (il (show inr _ 30 by assumption) l_350) | (rw [l_350]; exact Or.inr (by decide)))
    obtain ⟨j16, ej16, h⟩ := bd_e h
    have kj16 : ∀ (z15 : Int32), j16 z15 = some (I0, A0) → Fo I I0 ∧ Fo A A0 := by
      intro z15 h
      subst ej16
      obtain ⟨hn17, h⟩ := gk h
      obtain ⟨A18, eA18, h⟩ := bd_e h
      have fA18 : Fo A A18 := by rw [eA18]; exact Fo_up fA13 (by first | exact Or.inr (il (show inr _ 30 by assumption) l_350) | (rw [l_350]; exact Or.inr (by decide)))
      obtain ⟨j23, ej23, h⟩ := bd_e h
      have kj23 : ∀ (z22 : Int32), j23 z22 = some (I0, A0) → Fo I I0 ∧ Fo A A0 := by
        intro z22 h
        subst ej23
        obtain ⟨hn24, h⟩ := gk h
        obtain ⟨A25, eA25, h⟩ := bd_e h
        have fA25 : Fo A A25 := by rw [eA25]; exact Fo_up fA18 (by first | exact Or.inr (il (show inr _ 30 by assumption) l_350) | (rw [l_350]; exact Or.inr (by decide)))
        obtain ⟨hn26, h⟩ := gk h
        obtain ⟨A27, eA27, h⟩ := bd_e h
        have fA27 : Fo A A27 := by rw [eA27]; exact Fo_up fA25 (by first | exact Or.inr (il (show inr _ 5 by assumption) l_351) | (rw [l_351]; exact Or.inr (by decide)))
        obtain ⟨j29, ej29, h⟩ := bd_e h
        have kj29 : ∀ (z28 : Int32), j29 z28 = some (I0, A0) → Fo I I0 ∧ Fo A A0 := by
          intro z28 h
          subst ej29
          obtain ⟨A30, eA30, h⟩ := bd_e h
          have fA30 : Fo A A30 := by rw [eA30]; exact Fo_up fA27 (by first | exact Or.inr (il (show inr _ 5 by assumption) l_352) | (rw [l_352]; exact Or.inr (by decide)))
          obtain ⟨j41, ej41, h⟩ := bd_e h
          have kj41 : ∀ (A40 : Nat → Nat → Int32), j41 A40 = some (I0, A0) → Fo A A40 → Fo I I0 ∧ Fo A A0 := by
            intro A40 h fA40
            subst ej41
            obtain ⟨I42, eI42, h⟩ := bd_e h
            have fI42 : Fo I I42 := by rw [eI42]; exact Fo_up fI (Or.inl (by decide))
            obtain ⟨k46, ek46, h⟩ := bd_e h
            have kk46 : ∀ (A47 : Nat → Nat → Int32), k46 A47 = some (I0, A0) → Fo A A47 → Fo I I0 ∧ Fo A A0 := by
              intro A47 h fA47
              subst ek46
              obtain ⟨I48, eI48, h⟩ := bd_e h
              have fI48 : Fo I I48 := by rw [eI48]; exact Fo_up fI42 (Or.inl (by decide))
              cases h; exact ⟨fI48, fA47⟩
            have lp43 : ∀ (n : Nat) (v44 : Int32) (A45 : Nat → Nat → Int32), f_X7_endsAs_L236 a1 I42 k46 n v44 A45 = some (I0, A0) → Fo A A45 → Fo I I0 ∧ Fo A A0 := by
              intro n
              induction n with
              | zero => intro v44 A45 h; exact absurd h (by rw [f_X7_endsAs_L236]; exact nofun)
              | succ n ih43 =>
                intro v44 A45 h fA45
                rw [f_X7_endsAs_L236] at h
                by_cases c_49 : v44 < (I42 318 31)
                · have h := ip c_49 h
                  obtain ⟨hn50, h⟩ := gk h
                  obtain ⟨hn51, h⟩ := gk h
                  obtain ⟨A52, eA52, h⟩ := bd_e h
                  have fA52 : Fo A A52 := by rw [eA52]; exact Fo_up fA45 (by first | exact Or.inr (il (show inr _ 250 by assumption) l_354) | (rw [l_354]; exact Or.inr (by decide)))
                  obtain ⟨A53, eA53, h⟩ := bd_e h
                  have fA53 : Fo A A53 := by rw [eA53]; exact Fo_up fA52 (by first | exact Or.inr (il (show inr _ 250 by assumption) l_356) | (rw [l_356]; exact Or.inr (by decide)))
                  obtain ⟨A54, eA54, h⟩ := bd_e h
                  have fA54 : Fo A A54 := by rw [eA54]; exact Fo_up fA53 (by first | exact Or.inr (il (show inr _ 250 by assumption) l_357) | (rw [l_357]; exact Or.inr (by decide)))
                  obtain ⟨A55, eA55, h⟩ := bd_e h
                  have fA55 : Fo A A55 := by rw [eA55]; exact Fo_up fA54 (by first | exact Or.inr (il (show inr _ 250 by assumption) l_358) | (rw [l_358]; exact Or.inr (by decide)))
                  obtain ⟨j58, ej58, h⟩ := bd_e h
                  have kj58 : ∀ (z57 : Int32), j58 z57 = some (I0, A0) → Fo I I0 ∧ Fo A A0 := by
                    intro z57 h
                    subst ej58
                    obtain ⟨A59, eA59, h⟩ := bd_e h
                    have fA59 : Fo A A59 := by rw [eA59]; exact Fo_up fA55 (by first | exact Or.inr (il (show inr _ 250 by assumption) l_359) | (rw [l_359]; exact Or.inr (by decide)))
                    obtain ⟨k64, ek64, h⟩ := bd_e h
                    have kk64 : ∀ (A65 : Nat → Nat → Int32), k64 A65 = some (I0, A0) → Fo A A65 → Fo I I0 ∧ Fo A A0 := by
                      intro A65 h fA65
                      subst ek64
                      exact ih43 (v44 + 1) A65 h fA65
                    have lp60 : ∀ (n : Nat) (v61 : Int32) (v62 : Int32) (A63 : Nat → Nat → Int32), f_X7_endsAs_L357 v44 a1 I42 k64 n v61 v62 A63 = some (I0, A0) → Fo A A63 → Fo I I0 ∧ Fo A A0 := by
                      intro n
                      induction n with
                      | zero => intro v61 v62 A63 h; exact absurd h (by rw [f_X7_endsAs_L357]; exact nofun)
                      | succ n ih60 =>
                        intro v61 v62 A63 h fA63
                        rw [f_X7_endsAs_L357] at h
                        by_cases c_66 : v61 < 6
                        · have h := ip c_66 h
                          obtain ⟨hn67, h⟩ := gk h
                          obtain ⟨hn68, h⟩ := gk h
                          obtain ⟨A69, eA69, h⟩ := bd_e h
                          have fA69 : Fo A A69 := by rw [eA69]; exact Fo_up fA63 (by first | exact Or.inr (il (show inr _ 1500 by assumption) l_355) | (rw [l_355]; exact Or.inr (by decide)))
                          obtain ⟨A70, eA70, h⟩ := bd_e h
                          have fA70 : Fo A A70 := by rw [eA70]; exact Fo_up fA69 (by first | exact Or.inr (il (show inr _ 1500 by assumption) l_360) | (rw [l_360]; exact Or.inr (by decide)))
                          obtain ⟨A71, eA71, h⟩ := bd_e h
                          have fA71 : Fo A A71 := by rw [eA71]; exact Fo_up fA70 (by first | exact Or.inr (il (show inr _ 1500 by assumption) l_361) | (rw [l_361]; exact Or.inr (by decide)))
                          exact ih60 (v61 + 1) v62 A71 h fA71
                        · have h := iN c_66 h
                          exact kk64 A63 h fA63
                    exact lp60 FU 0 (A45 346 v44.toNatClampNeg) A59 h fA59
                  by_cases c_72 : (A55 338 ((A45 346 v44.toNatClampNeg).toNatClampNeg)) < (A55 319 a1.toNatClampNeg)
                  · have h := ip c_72 h
                    obtain ⟨hn73, h⟩ := gk h
                    exact kj58 (A55 321 (((6 * a1) + (A55 338 ((A45 346 v44.toNatClampNeg).toNatClampNeg))).toNatClampNeg)) h
                  · have h := iN c_72 h
                    exact kj58 0 h
                · have h := iN c_49 h
                  exact kk46 A45 h fA45
            exact lp43 FU 0 A40 h fA40
          by_cases c_74 : a2 = 1
          · have h := ip c_74 h
            obtain ⟨k78, ek78, h⟩ := bd_e h
            have kk78 : ∀ (A79 : Nat → Nat → Int32), k78 A79 = some (I0, A0) → Fo A A79 → Fo I I0 ∧ Fo A A0 := by
              intro A79 h fA79
              subst ek78
              exact kj41 A79 h fA79
            have lp75 : ∀ (n : Nat) (v76 : Int32) (A77 : Nat → Nat → Int32), f_X7_endsAs_L187 z4 a1 I k78 n v76 A77 = some (I0, A0) → Fo A A77 → Fo I I0 ∧ Fo A A0 := by
              intro n
              induction n with
              | zero => intro v76 A77 h; exact absurd h (by rw [f_X7_endsAs_L187]; exact nofun)
              | succ n ih75 =>
                intro v76 A77 h fA77
                rw [f_X7_endsAs_L187] at h
                by_cases c_80 : v76 < 6
                · have h := ip c_80 h
                  obtain ⟨hn81, h⟩ := gk h
                  obtain ⟨hn82, h⟩ := gk h
                  obtain ⟨A83, eA83, h⟩ := bd_e h
                  have fA83 : Fo A A83 := by rw [eA83]; exact Fo_up fA77 (by first | exact Or.inr (il (show inr _ 30 by assumption) l_353) | (rw [l_353]; exact Or.inr (by decide)))
                  exact ih75 (v76 + 1) A83 h fA83
                · have h := iN c_80 h
                  exact kk78 A77 h fA77
            exact lp75 FU 0 A30 h fA30
          · have h := iN c_74 h
            exact kj41 A30 h fA30
        by_cases c_84 : a2 = 1
        · have h := ip c_84 h
          exact kj29 1 h
        · have h := iN c_84 h
          exact kj29 0 h
      by_cases c_85 : a2 = 1
      · have h := ip c_85 h
        obtain ⟨hn88, h⟩ := gk h
        exact kj23 (A18 341 z4.toNatClampNeg) h
      · have h := iN c_85 h
        by_cases c_86 : r1 = (-9)
        · have h := ip c_86 h
          exact kj23 (-1000000) h
        · have h := iN c_86 h
          obtain ⟨hn87, h⟩ := gk h
          exact kj23 (A18 341 r1.toNatClampNeg) h
    by_cases c_89 : a2 = 1
    · have h := ip c_89 h
      obtain ⟨hn90, h⟩ := gk h
      exact kj16 (A13 341 z4.toNatClampNeg) h
    · have h := iN c_89 h
      exact kj16 (-1000000) h
  by_cases c_91 : 0 < (I 318 31)
  · have h := ip c_91 h
    obtain ⟨hn92, h⟩ := gk h
    exact kj5 (A 346 (((I 318 31) - 1).toNatClampNeg)) h
  · have h := iN c_91 h
    exact kj5 (-9) h
set_option maxHeartbeats 4000000 in
set_option maxRecDepth 100000 in
theorem qo_X7_fail (I : Nat → Nat → Int32) (A : Nat → Nat → Int32) (a1 : Int32) (a2 : Int32) (r0 : Int32) (I0 : Nat → Nat → Int32) (A0 : Nat → Nat → Int32) (h : f_X7_fail I A a1 a2 = some (r0, I0, A0)) : Fo I I0 ∧ Fo A A0 := by
  have fI : Fo I I := Fo_rf
  have fA : Fo A A := Fo_rf
  rw [f_X7_fail] at h
  obtain ⟨I1, eI1, h⟩ := bd_e h
  have fI1 : Fo I I1 := by rw [eI1]; exact Fo_up fI (Or.inl (by decide))
  obtain ⟨r2, hc3, h⟩ := Option.bind_eq_some_iff.mp h
  by_cases c_4 : r2 = 0
  · have h := ip c_4 h
    cases h; exact ⟨fI1, fA⟩
  · have h := iN c_4 h
    obtain ⟨r5, hc6, h⟩ := Option.bind_eq_some_iff.mp h
    by_cases c_7 : r5 = 0
    · have h := ip c_7 h
      cases h; exact ⟨fI1, fA⟩
    · have h := iN c_7 h
      by_cases c_8 : (I1 318 23) = (-9)
      · have h := ip c_8 h
        obtain ⟨hn9, h⟩ := gk h
        obtain ⟨A10, eA10, h⟩ := bd_e h
        have fA10 : Fo A A10 := by rw [eA10]; exact Fo_up fA (by first | exact Or.inr (il (show inr _ 5 by assumption) l_330) | (rw [l_330]; exact Or.inr (by decide)))
        cases h; exact ⟨fI1, fA10⟩
      · have h := iN c_8 h
        cases h; exact ⟨fI1, fA⟩
set_option maxHeartbeats 4000000 in
set_option maxRecDepth 100000 in
theorem qo_X7_giveUp (I : Nat → Nat → Int32) (r0 : Int32) (I0 : Nat → Nat → Int32) (h : f_X7_giveUp I = some (r0, I0)) : Fo I I0 := by
  have fI : Fo I I := Fo_rf
  rw [f_X7_giveUp] at h
  obtain ⟨I1, eI1, h⟩ := bd_e h
  have fI1 : Fo I I1 := by rw [eI1]; exact Fo_up fI (Or.inl (by decide))
  by_cases c_2 : (I1 318 23) = (-9)
  · have h := ip c_2 h
    cases h; exact fI1
  · have h := iN c_2 h
    obtain ⟨I3, eI3, h⟩ := bd_e h
    have fI3 : Fo I I3 := by rw [eI3]; exact Fo_up fI1 (Or.inl (by decide))
    cases h; exact fI3
set_option maxHeartbeats 4000000 in
set_option maxRecDepth 100000 in
theorem qo_X7_helper (I : Nat → Nat → Int32) (A : Nat → Nat → Int32) (a1 : Int32) (a2 : Int32) (r0 : Int32) (I0 : Nat → Nat → Int32) (h : f_X7_helper I A a1 a2 = some (r0, I0)) : Fo I I0 := by
  have fI : Fo I I := Fo_rf
  have fA : Fo A A := Fo_rf
  rw [f_X7_helper] at h
  obtain ⟨I1, eI1, h⟩ := bd_e h
  have fI1 : Fo I I1 := by rw [eI1]; exact Fo_up fI (Or.inl (by decide))
  obtain ⟨r2, hc3, h⟩ := Option.bind_eq_some_iff.mp h
  by_cases c_4 : r2 = 0
  · have h := ip c_4 h
    cases h; exact fI1
  · have h := iN c_4 h
    obtain ⟨r5, hc6, h⟩ := Option.bind_eq_some_iff.mp h
    by_cases c_7 : r5 = 0
    · have h := ip c_7 h
      cases h; exact fI1
    · have h := iN c_7 h
      by_cases c_8 : a2 = 0
      · have h := ip c_8 h
        obtain ⟨hn12, h⟩ := gk h
        cases h; exact fI1
      · have h := iN c_8 h
        by_cases c_9 : a2 = 1
        · have h := ip c_9 h
          obtain ⟨hn11, h⟩ := gk h
          cases h; exact fI1
        · have h := iN c_9 h
          obtain ⟨hn10, h⟩ := gk h
          cases h; exact fI1
set_option maxHeartbeats 4000000 in
set_option maxRecDepth 100000 in
theorem qo_X7_helpers (I : Nat → Nat → Int32) (A : Nat → Nat → Int32) (a1 : Int32) (r0 : Int32) (I0 : Nat → Nat → Int32) (A0 : Nat → Nat → Int32) (h : f_X7_helpers I A a1 = some (r0, I0, A0)) : Fo I I0 ∧ Fo A A0 := by
  have fI : Fo I I := Fo_rf
  have fA : Fo A A := Fo_rf
  rw [f_X7_helpers] at h
  obtain ⟨I1, eI1, h⟩ := bd_e h
  have fI1 : Fo I I1 := by rw [eI1]; exact Fo_up fI (Or.inl (by decide))
  obtain ⟨r2, hc3, h⟩ := Option.bind_eq_some_iff.mp h
  by_cases c_4 : r2 = 0
  · have h := ip c_4 h
    cases h; exact ⟨fI1, fA⟩
  · have h := iN c_4 h
    by_cases c_5 : (I1 318 23) = (-9)
    · have h := ip c_5 h
      obtain ⟨I6, eI6, h⟩ := bd_e h
      have fI6 : Fo I I6 := by rw [eI6]; exact Fo_up fI1 (Or.inl (by decide))
      obtain ⟨k11, ek11, h⟩ := bd_e h
      have kk11 : ∀ (v12 : Int32) (A13 : Nat → Nat → Int32), k11 v12 A13 = some (r0, I0, A0) → Fo A A13 → Fo I I0 ∧ Fo A A0 := by
        intro v12 A13 h fA13
        subst ek11
        cases h; exact ⟨fI6, fA13⟩
      have lp7 : ∀ (n : Nat) (v8 : Int32) (v9 : Int32) (A10 : Nat → Nat → Int32), f_X7_helpers_L40 I6 k11 n v8 v9 A10 = some (r0, I0, A0) → Fo A A10 → Fo I I0 ∧ Fo A A0 := by
        intro n
        induction n with
        | zero => intro v8 v9 A10 h; exact absurd h (by rw [f_X7_helpers_L40]; exact nofun)
        | succ n ih7 =>
          intro v8 v9 A10 h fA10
          rw [f_X7_helpers_L40] at h
          by_cases c_14 : v8 < 5
          · have h := ip c_14 h
            obtain ⟨hn15, h⟩ := gk h
            obtain ⟨A16, eA16, h⟩ := bd_e h
            have fA16 : Fo A A16 := by rw [eA16]; exact Fo_up fA10 (by first | exact Or.inr (il (show inr _ 5 by assumption) l_330) | (rw [l_330]; exact Or.inr (by decide)))
            exact ih7 (v8 + 1) v9 A16 h fA16
          · have h := iN c_14 h
            exact kk11 v9 A10 h fA10
      exact lp7 FU 0 (I1 318 15) A h fA
    · have h := iN c_5 h
      cases h; exact ⟨fI1, fA⟩
set_option maxHeartbeats 4000000 in
set_option maxRecDepth 100000 in
theorem qo_X7_limit (I : Nat → Nat → Int32) (a1 : Int32) (r0 : Int32) (I0 : Nat → Nat → Int32) (h : f_X7_limit I a1 = some (r0, I0)) : Fo I I0 := by
  have fI : Fo I I := Fo_rf
  rw [f_X7_limit] at h
  obtain ⟨I1, eI1, h⟩ := bd_e h
  have fI1 : Fo I I1 := by rw [eI1]; exact Fo_up fI (Or.inl (by decide))
  obtain ⟨r2, hc3, h⟩ := Option.bind_eq_some_iff.mp h
  by_cases c_4 : r2 = 0
  · have h := ip c_4 h
    cases h; exact fI1
  · have h := iN c_4 h
    by_cases c_5 : (I1 318 23) = (-9)
    · have h := ip c_5 h
      obtain ⟨I6, eI6, h⟩ := bd_e h
      have fI6 : Fo I I6 := by rw [eI6]; exact Fo_up fI1 (Or.inl (by decide))
      cases h; exact fI6
    · have h := iN c_5 h
      cases h; exact fI1
set_option maxHeartbeats 4000000 in
set_option maxRecDepth 100000 in
theorem qo_X7_node (I : Nat → Nat → Int32) (A : Nat → Nat → Int32) (a1 : Int32) (a2 : Int32) (a3 : Int32) (r0 : Int32) (I0 : Nat → Nat → Int32) (A0 : Nat → Nat → Int32) (h : f_X7_node I A a1 a2 a3 = some (r0, I0, A0)) : Fo I I0 ∧ Fo A A0 := by
  have fI : Fo I I := Fo_rf
  have fA : Fo A A := Fo_rf
  rw [f_X7_node] at h
  obtain ⟨I1, eI1, h⟩ := bd_e h
  have fI1 : Fo I I1 := by rw [eI1]; exact Fo_up fI (Or.inl (by decide))
  obtain ⟨r2, hc3, h⟩ := Option.bind_eq_some_iff.mp h
  by_cases c_4 : r2 = 0
  · have h := ip c_4 h
    cases h; exact ⟨fI1, fA⟩
  · have h := iN c_4 h
    by_cases c_5 : (I1 318 57) = (-9)
    · have h := ip c_5 h
      cases h; exact ⟨fI1, fA⟩
    · have h := iN c_5 h
      obtain ⟨hn6, h⟩ := gk h
      by_cases c_7 : (A 329 ((I1 318 57).toNatClampNeg)) = (I1 318 58)
      · have h := ip c_7 h
        obtain ⟨k12, ek12, h⟩ := bd_e h
        have kk12 : ∀ (v13 : Int32) (A14 : Nat → Nat → Int32), k12 v13 A14 = some (r0, I0, A0) → Fo A A14 → Fo I I0 ∧ Fo A A0 := by
          intro v13 A14 h fA14
          subst ek12
          by_cases c_15 : a1 = 0
          · have h := ip c_15 h
            obtain ⟨r33, hc34, h⟩ := Option.bind_eq_some_iff.mp h
            by_cases c_35 : r33 = 0
            · have h := ip c_35 h
              cases h; exact ⟨fI1, fA14⟩
            · have h := iN c_35 h
              obtain ⟨r36, hc37, h⟩ := Option.bind_eq_some_iff.mp h
              by_cases c_38 : r36 = 0
              · have h := ip c_38 h
                cases h; exact ⟨fI1, fA14⟩
              · have h := iN c_38 h
                cases h; exact ⟨fI1, fA14⟩
          · have h := iN c_15 h
            by_cases c_16 : a1 = 1
            · have h := ip c_16 h
              obtain ⟨r25, hc26, h⟩ := Option.bind_eq_some_iff.mp h
              by_cases c_27 : r25 = 0
              · have h := ip c_27 h
                cases h; exact ⟨fI1, fA14⟩
              · have h := iN c_27 h
                by_cases c_28 : a2 < (I1 318 59)
                · have h := ip c_28 h
                  cases h; exact ⟨fI1, fA14⟩
                · have h := iN c_28 h
                  obtain ⟨⟨r29, A30⟩, hc31, h⟩ := Option.bind_eq_some_iff.mp h
                  have fA30 : Fo A A30 := Fo_tr fA14 (qo_X7_isOut A14 v13 a2 a3 r29 A30 hc31)
                  by_cases c_32 : r29 = 0
                  · have h := ip c_32 h
                    cases h; exact ⟨fI1, fA30⟩
                  · have h := iN c_32 h
                    cases h; exact ⟨fI1, fA30⟩
            · have h := iN c_16 h
              obtain ⟨⟨r17, I18, A19⟩, hc20, h⟩ := Option.bind_eq_some_iff.mp h
              have fI18 : Fo I I18 := Fo_tr fI1 (qo_X7_whatIs I1 A14 v13 (I1 318 59) 1 r17 I18 A19 hc20).1
              have fA19 : Fo A A19 := Fo_tr fA14 (qo_X7_whatIs I1 A14 v13 (I1 318 59) 1 r17 I18 A19 hc20).2
              by_cases c_21 : a1 = 2
              · have h := ip c_21 h
                cases h; exact ⟨fI18, fA19⟩
              · have h := iN c_21 h
                by_cases c_22 : a1 = 3
                · have h := ip c_22 h
                  by_cases c_24 : r17 = 0
                  · have h := ip c_24 h
                    cases h; exact ⟨fI18, fA19⟩
                  · have h := iN c_24 h
                    cases h; exact ⟨fI18, fA19⟩
                · have h := iN c_22 h
                  by_cases c_23 : r17 = 0
                  · have h := ip c_23 h
                    cases h; exact ⟨fI18, fA19⟩
                  · have h := iN c_23 h
                    cases h; exact ⟨fI18, fA19⟩
        have lp8 : ∀ (n : Nat) (v9 : Int32) (v10 : Int32) (A11 : Nat → Nat → Int32), f_X7_node_L53 a1 a2 a3 I1 k12 n v9 v10 A11 = some (r0, I0, A0) → Fo A A11 → Fo I I0 ∧ Fo A A0 := by
          intro n
          induction n with
          | zero => intro v9 v10 A11 h; exact absurd h (by rw [f_X7_node_L53]; exact nofun)
          | succ n ih8 =>
            intro v9 v10 A11 h fA11
            rw [f_X7_node_L53] at h
            by_cases c_39 : v9 < 6
            · have h := ip c_39 h
              by_cases c_40 : v9 < (I1 318 59)
              · have h := ip c_40 h
                obtain ⟨hn43, h⟩ := gk h
                obtain ⟨A44, eA44, h⟩ := bd_e h
                have fA44 : Fo A A44 := by rw [eA44]; exact Fo_up fA11 (by first | exact Or.inr (il (show inr _ 6 by assumption) l_364) | (rw [l_364]; exact Or.inr (by decide)))
                exact ih8 (v9 + 1) v10 A44 h fA44
              · have h := iN c_40 h
                obtain ⟨hn41, h⟩ := gk h
                obtain ⟨A42, eA42, h⟩ := bd_e h
                have fA42 : Fo A A42 := by rw [eA42]; exact Fo_up fA11 (by first | exact Or.inr (il (show inr _ 6 by assumption) l_364) | (rw [l_364]; exact Or.inr (by decide)))
                exact ih8 (v9 + 1) v10 A42 h fA42
            · have h := iN c_39 h
              exact kk12 v10 A11 h fA11
        exact lp8 FU 0 (I1 318 57) A h fA
      · have h := iN c_7 h
        cases h; exact ⟨fI1, fA⟩
set_option maxHeartbeats 4000000 in
set_option maxRecDepth 100000 in
theorem qo_X7_number (I : Nat → Nat → Int32) (A : Nat → Nat → Int32) (a1 : Int32) (a2 : Int32) (a3 : Int32) (r0 : Int32) (I0 : Nat → Nat → Int32) (A0 : Nat → Nat → Int32) (h : f_X7_number I A a1 a2 a3 = some (r0, I0, A0)) : Fo I I0 ∧ Fo A A0 := by
  have fI : Fo I I := Fo_rf
  have fA : Fo A A := Fo_rf
  rw [f_X7_number] at h
  obtain ⟨I1, eI1, h⟩ := bd_e h
  have fI1 : Fo I I1 := by rw [eI1]; exact Fo_up fI (Or.inl (by decide))
  obtain ⟨I2, eI2, h⟩ := bd_e h
  have fI2 : Fo I I2 := by rw [eI2]; exact Fo_up fI1 (Or.inl (by decide))
  obtain ⟨r3, hc4, h⟩ := Option.bind_eq_some_iff.mp h
  by_cases c_5 : r3 = 0
  · have h := ip c_5 h
    obtain ⟨⟨r6, I7⟩, hc8, h⟩ := Option.bind_eq_some_iff.mp h
    have fI7 : Fo I I7 := Fo_tr fI2 (qo_X7_no I2 (-1) r6 I7 hc8)
    cases h; exact ⟨fI7, fA⟩
  · have h := iN c_5 h
    obtain ⟨r9, hc10, h⟩ := Option.bind_eq_some_iff.mp h
    by_cases c_11 : r9 = 0
    · have h := ip c_11 h
      obtain ⟨⟨r21, I22⟩, hc23, h⟩ := Option.bind_eq_some_iff.mp h
      have fI22 : Fo I I22 := Fo_tr fI2 (qo_X7_no I2 (-1) r21 I22 hc23)
      cases h; exact ⟨fI22, fA⟩
    · have h := iN c_11 h
      by_cases c_12 : (I2 318 23) = (-9)
      · have h := ip c_12 h
        obtain ⟨hn13, h⟩ := gk h
        obtain ⟨A14, eA14, h⟩ := bd_e h
        have fA14 : Fo A A14 := by rw [eA14]; exact Fo_up fA (by first | exact Or.inr (il (show inr _ 40 by assumption) l_325) | (rw [l_325]; exact Or.inr (by decide)))
        obtain ⟨⟨I15, A16⟩, hc17, h⟩ := Option.bind_eq_some_iff.mp h
        have fI15 : Fo I I15 := Fo_tr fI2 (qo_X7_changes I2 A14 a1 I15 A16 hc17).1
        have fA16 : Fo A A16 := Fo_tr fA14 (qo_X7_changes I2 A14 a1 I15 A16 hc17).2
        cases h; exact ⟨fI15, fA16⟩
      · have h := iN c_12 h
        obtain ⟨⟨r18, I19⟩, hc20, h⟩ := Option.bind_eq_some_iff.mp h
        have fI19 : Fo I I19 := Fo_tr fI2 (qo_X7_no I2 (-2) r18 I19 hc20)
        cases h; exact ⟨fI19, fA⟩
set_option maxHeartbeats 4000000 in
set_option maxRecDepth 100000 in
theorem qo_X7_rowOf (A : Nat → Nat → Int32) (a1 : Int32) (A0 : Nat → Nat → Int32) (h : f_X7_rowOf A a1 = some A0) : Fo A A0 := by
  have fA : Fo A A := Fo_rf
  rw [f_X7_rowOf] at h
  obtain ⟨k4, ek4, h⟩ := bd_e h
  have kk4 : ∀ (A5 : Nat → Nat → Int32), k4 A5 = some A0 → Fo A A5 → Fo A A0 := by
    intro A5 h fA5
    subst ek4
    cases h; exact fA5
  have lp1 : ∀ (n : Nat) (v2 : Int32) (A3 : Nat → Nat → Int32), f_X7_rowOf_L2 a1 k4 n v2 A3 = some A0 → Fo A A3 → Fo A A0 := by
    intro n
    induction n with
    | zero => intro v2 A3 h; exact absurd h (by rw [f_X7_rowOf_L2]; exact nofun)
    | succ n ih1 =>
      intro v2 A3 h fA3
      rw [f_X7_rowOf_L2] at h
      by_cases c_6 : v2 < 6
      · have h := ip c_6 h
        obtain ⟨hn7, h⟩ := gk h
        obtain ⟨hn8, h⟩ := gk h
        obtain ⟨A9, eA9, h⟩ := bd_e h
        have fA9 : Fo A A9 := by rw [eA9]; exact Fo_up fA3 (by first | exact Or.inr (il (show inr _ 6 by assumption) l_364) | (rw [l_364]; exact Or.inr (by decide)))
        exact ih1 (v2 + 1) A9 h fA9
      · have h := iN c_6 h
        exact kk4 A3 h fA3
  exact lp1 FU 0 A h fA
set_option maxHeartbeats 4000000 in
set_option maxRecDepth 100000 in
theorem qo_X7_opens (I : Nat → Nat → Int32) (A : Nat → Nat → Int32) (a1 : Int32) (a2 : Int32) (a3 : Int32) (I0 : Nat → Nat → Int32) (A0 : Nat → Nat → Int32) (h : f_X7_opens I A a1 a2 a3 = some (I0, A0)) : Fo I I0 ∧ Fo A A0 := by
  have fI : Fo I I := Fo_rf
  have fA : Fo A A := Fo_rf
  rw [f_X7_opens] at h
  obtain ⟨hn1, h⟩ := gk h
  obtain ⟨A2, eA2, h⟩ := bd_e h
  have fA2 : Fo A A2 := by rw [eA2]; exact Fo_up fA (by first | exact Or.inr (il (show inr _ 2000 by assumption) l_344) | (rw [l_344]; exact Or.inr (by decide)))
  obtain ⟨I3, eI3, h⟩ := bd_e h
  have fI3 : Fo I I3 := by rw [eI3]; exact Fo_up fI (Or.inl (by decide))
  obtain ⟨hn4, h⟩ := gk h
  by_cases c_5 : (A2 338 a2.toNatClampNeg) = (A2 319 a1.toNatClampNeg)
  · have h := ip c_5 h
    cases h; exact ⟨fI3, fA2⟩
  · have h := iN c_5 h
    obtain ⟨k11, ek11, h⟩ := bd_e h
    have kk11 : ∀ (I12 : Nat → Nat → Int32) (A13 : Nat → Nat → Int32), k11 I12 A13 = some (I0, A0) → Fo I I12 → Fo A A13 → Fo I I0 ∧ Fo A A0 := by
      intro I12 A13 h fI12 fA13
      subst ek11
      cases h; exact ⟨fI12, fA13⟩
    have lp6 : ∀ (n : Nat) (v7 : Int32) (v8 : Int32) (I9 : Nat → Nat → Int32) (A10 : Nat → Nat → Int32), f_X7_opens_L40 a1 a2 a3 k11 n v7 v8 I9 A10 = some (I0, A0) → Fo I I9 → Fo A A10 → Fo I I0 ∧ Fo A A0 := by
      intro n
      induction n with
      | zero => intro v7 v8 I9 A10 h; exact absurd h (by rw [f_X7_opens_L40]; exact nofun)
      | succ n ih6 =>
        intro v7 v8 I9 A10 h fI9 fA10
        rw [f_X7_opens_L40] at h
        obtain ⟨hn14, h⟩ := gk h
        by_cases c_15 : v7 < (A10 321 (((6 * a1) + v8).toNatClampNeg))
        · have h := ip c_15 h
          obtain ⟨A16, hc17, h⟩ := Option.bind_eq_some_iff.mp h
          have fA16 : Fo A A16 := Fo_tr fA10 (qo_X7_rowOf A10 a2 A16 hc17)
          obtain ⟨hn18, h⟩ := gk h
          obtain ⟨A19, eA19, h⟩ := bd_e h
          have fA19 : Fo A A19 := by rw [eA19]; exact Fo_up fA16 (by first | exact Or.inr (il (show inr _ 6 by assumption) l_364) | (rw [l_364]; exact Or.inr (by decide)))
          obtain ⟨⟨r20, I21, A22⟩, hc23, h⟩ := Option.bind_eq_some_iff.mp h
          have fI21 : Fo I I21 := Fo_tr fI9 (qo_X7_whatIs I9 A19 a1 (v8 + 1) a3 r20 I21 A22 hc23).1
          have fA22 : Fo A A22 := Fo_tr fA19 (qo_X7_whatIs I9 A19 a1 (v8 + 1) a3 r20 I21 A22 hc23).2
          obtain ⟨hn24, h⟩ := gk h
          obtain ⟨A25, eA25, h⟩ := bd_e h
          have fA25 : Fo A A25 := by rw [eA25]; exact Fo_up fA22 (by first | exact Or.inr (il (show inr _ 12000 by assumption) l_347) | (rw [l_347]; exact Or.inr (by decide)))
          obtain ⟨j27, ej27, h⟩ := bd_e h
          have kj27 : ∀ (z26 : Int32), j27 z26 = some (I0, A0) → Fo I I0 ∧ Fo A A0 := by
            intro z26 h
            subst ej27
            obtain ⟨A28, eA28, h⟩ := bd_e h
            have fA28 : Fo A A28 := by rw [eA28]; exact Fo_up fA25 (by first | exact Or.inr (il (show inr _ 12000 by assumption) l_348) | (rw [l_348]; exact Or.inr (by decide)))
            by_cases c_29 : r20 = 0
            · have h := ip c_29 h
              obtain ⟨⟨I30, A31⟩, hc32, h⟩ := Option.bind_eq_some_iff.mp h
              have fI30 : Fo I I30 := Fo_tr fI21 (qo_X7_addNode I21 A28 (v8 + 1) a2 I30 A31 hc32).1
              have fA31 : Fo A A31 := Fo_tr fA28 (qo_X7_addNode I21 A28 (v8 + 1) a2 I30 A31 hc32).2
              obtain ⟨A33, eA33, h⟩ := bd_e h
              have fA33 : Fo A A33 := by rw [eA33]; exact Fo_up fA31 (by first | exact Or.inr (il (show inr _ 2000 by assumption) l_349) | (rw [l_349]; exact Or.inr (by decide)))
              exact ih6 (v7 + 1) v8 I30 A33 h fI30 fA33
            · have h := iN c_29 h
              exact ih6 (v7 + 1) v8 I21 A28 h fI21 fA28
          by_cases c_34 : r20 = 0
          · have h := ip c_34 h
            exact kj27 (-9) h
          · have h := iN c_34 h
            exact kj27 (I21 318 64) h
        · have h := iN c_15 h
          exact kk11 I9 A10 h fI9 fA10
    exact lp6 FU 0 (A2 338 a2.toNatClampNeg) I3 A2 h fI3 fA2
set_option maxHeartbeats 4000000 in
set_option maxRecDepth 100000 in
theorem qo_X7_part (I : Nat → Nat → Int32) (A : Nat → Nat → Int32) (a1 : Int32) (a2 : Int32) (a3 : Int32) (a4 : Int32) (r0 : Int32) (I0 : Nat → Nat → Int32) (A0 : Nat → Nat → Int32) (h : f_X7_part I A a1 a2 a3 a4 = some (r0, I0, A0)) : Fo I I0 ∧ Fo A A0 := by
  have fI : Fo I I := Fo_rf
  have fA : Fo A A := Fo_rf
  rw [f_X7_part] at h
  obtain ⟨I1, eI1, h⟩ := bd_e h
  have fI1 : Fo I I1 := by rw [eI1]; exact Fo_up fI (Or.inl (by decide))
  obtain ⟨r2, hc3, h⟩ := Option.bind_eq_some_iff.mp h
  by_cases c_4 : r2 = 0
  · have h := ip c_4 h
    cases h; exact ⟨fI1, fA⟩
  · have h := iN c_4 h
    obtain ⟨hn5, h⟩ := gk h
    obtain ⟨r6, hc7, h⟩ := Option.bind_eq_some_iff.mp h
    by_cases c_8 : r6 = 0
    · have h := ip c_8 h
      cases h; exact ⟨fI1, fA⟩
    · have h := iN c_8 h
      obtain ⟨r9, hc10, h⟩ := Option.bind_eq_some_iff.mp h
      by_cases c_11 : r9 = 0
      · have h := ip c_11 h
        cases h; exact ⟨fI1, fA⟩
      · have h := iN c_11 h
        by_cases c_12 : (I1 318 23) = (-9)
        · have h := ip c_12 h
          obtain ⟨r13, hc14, h⟩ := Option.bind_eq_some_iff.mp h
          by_cases c_15 : r13 = (-9)
          · have h := ip c_15 h
            obtain ⟨hn16, h⟩ := gk h
            obtain ⟨hn17, h⟩ := gk h
            obtain ⟨A18, eA18, h⟩ := bd_e h
            have fA18 : Fo A A18 := by rw [eA18]; exact Fo_up fA (by first | exact Or.inr (il (show inr _ 240 by assumption) l_327) | (rw [l_327]; exact Or.inr (by decide)))
            obtain ⟨hn19, h⟩ := gk h
            obtain ⟨A20, eA20, h⟩ := bd_e h
            have fA20 : Fo A A20 := by rw [eA20]; exact Fo_up fA18 (by first | exact Or.inr (il (show inr _ 240 by assumption) l_328) | (rw [l_328]; exact Or.inr (by decide)))
            obtain ⟨A21, eA21, h⟩ := bd_e h
            have fA21 : Fo A A21 := by rw [eA21]; exact Fo_up fA20 (by first | exact Or.inr (il (show inr _ 40 by assumption) l_326) | (rw [l_326]; exact Or.inr (by decide)))
            obtain ⟨⟨I22, A23⟩, hc24, h⟩ := Option.bind_eq_some_iff.mp h
            have fI22 : Fo I I22 := Fo_tr fI1 (qo_X7_changes I1 A21 a1 I22 A23 hc24).1
            have fA23 : Fo A A23 := Fo_tr fA21 (qo_X7_changes I1 A21 a1 I22 A23 hc24).2
            cases h; exact ⟨fI22, fA23⟩
          · have h := iN c_15 h
            cases h; exact ⟨fI1, fA⟩
        · have h := iN c_12 h
          cases h; exact ⟨fI1, fA⟩
set_option maxHeartbeats 4000000 in
set_option maxRecDepth 100000 in
theorem qo_X7_plain (I : Nat → Nat → Int32) (r0 : Int32) (I0 : Nat → Nat → Int32) (h : f_X7_plain I = some (r0, I0)) : Fo I I0 := by
  have fI : Fo I I := Fo_rf
  rw [f_X7_plain] at h
  obtain ⟨I1, eI1, h⟩ := bd_e h
  have fI1 : Fo I I1 := by rw [eI1]; exact Fo_up fI (Or.inl (by decide))
  by_cases c_2 : (I1 318 23) = (-9)
  · have h := ip c_2 h
    obtain ⟨I3, eI3, h⟩ := bd_e h
    have fI3 : Fo I I3 := by rw [eI3]; exact Fo_up fI1 (Or.inl (by decide))
    cases h; exact fI3
  · have h := iN c_2 h
    cases h; exact fI1
set_option maxHeartbeats 4000000 in
set_option maxRecDepth 100000 in
theorem qo_X7_problem (I : Nat → Nat → Int32) (r0 : Int32) (I0 : Nat → Nat → Int32) (h : f_X7_problem I = some (r0, I0)) : Fo I I0 := by
  have fI : Fo I I := Fo_rf
  rw [f_X7_problem] at h
  obtain ⟨I1, eI1, h⟩ := bd_e h
  have fI1 : Fo I I1 := by rw [eI1]; exact Fo_up fI (Or.inl (by decide))
  by_cases c_2 : (I1 318 23) = (-9)
  · have h := ip c_2 h
    by_cases c_3 : (I1 318 2) = 5
    · have h := ip c_3 h
      cases h; exact fI1
    · have h := iN c_3 h
      obtain ⟨I4, eI4, h⟩ := bd_e h
      have fI4 : Fo I I4 := by rw [eI4]; exact Fo_up fI1 (Or.inl (by decide))
      cases h; exact fI4
  · have h := iN c_2 h
    cases h; exact fI1
set_option maxHeartbeats 4000000 in
set_option maxRecDepth 100000 in
theorem qo_X7_row (I : Nat → Nat → Int32) (A : Nat → Nat → Int32) (a1 : Int32) (r0 : Int32) (I0 : Nat → Nat → Int32) (h : f_X7_row I A a1 = some (r0, I0)) : Fo I I0 := by
  have fI : Fo I I := Fo_rf
  have fA : Fo A A := Fo_rf
  rw [f_X7_row] at h
  obtain ⟨I1, eI1, h⟩ := bd_e h
  have fI1 : Fo I I1 := by rw [eI1]; exact Fo_up fI (Or.inl (by decide))
  by_cases c_2 : (I1 318 61) = (-9)
  · have h := ip c_2 h
    cases h; exact fI1
  · have h := iN c_2 h
    obtain ⟨r3, hc4, h⟩ := Option.bind_eq_some_iff.mp h
    by_cases c_5 : r3 = 0
    · have h := ip c_5 h
      cases h; exact fI1
    · have h := iN c_5 h
      obtain ⟨hn6, h⟩ := gk h
      cases h; exact fI1
set_option maxHeartbeats 4000000 in
set_option maxRecDepth 100000 in
theorem qo_X7_rule (I : Nat → Nat → Int32) (A : Nat → Nat → Int32) (a1 : Int32) (a2 : Int32) (a3 : Int32) (r0 : Int32) (I0 : Nat → Nat → Int32) (A0 : Nat → Nat → Int32) (h : f_X7_rule I A a1 a2 a3 = some (r0, I0, A0)) : Fo I I0 ∧ Fo A A0 := by
  have fI : Fo I I := Fo_rf
  have fA : Fo A A := Fo_rf
  rw [f_X7_rule] at h
  obtain ⟨I1, eI1, h⟩ := bd_e h
  have fI1 : Fo I I1 := by rw [eI1]; exact Fo_up fI (Or.inl (by decide))
  obtain ⟨r2, hc3, h⟩ := Option.bind_eq_some_iff.mp h
  by_cases c_4 : r2 = 0
  · have h := ip c_4 h
    cases h; exact ⟨fI1, fA⟩
  · have h := iN c_4 h
    obtain ⟨r5, hc6, h⟩ := Option.bind_eq_some_iff.mp h
    by_cases c_7 : r5 = 0
    · have h := ip c_7 h
      cases h; exact ⟨fI1, fA⟩
    · have h := iN c_7 h
      obtain ⟨r8, hc9, h⟩ := Option.bind_eq_some_iff.mp h
      by_cases c_10 : r8 = 0
      · have h := ip c_10 h
        cases h; exact ⟨fI1, fA⟩
      · have h := iN c_10 h
        by_cases c_11 : (I1 318 23) = (-9)
        · have h := ip c_11 h
          obtain ⟨hn12, h⟩ := gk h
          by_cases c_13 : (A 320 a1.toNatClampNeg) = 8
          · have h := ip c_13 h
            cases h; exact ⟨fI1, fA⟩
          · have h := iN c_13 h
            obtain ⟨hn14, h⟩ := gk h
            obtain ⟨A15, eA15, h⟩ := bd_e h
            have fA15 : Fo A A15 := by rw [eA15]; exact Fo_up fA (by first | exact Or.inr (il (show inr _ 40 by assumption) l_324) | (rw [l_324]; exact Or.inr (by decide)))
            obtain ⟨A16, eA16, h⟩ := bd_e h
            have fA16 : Fo A A16 := by rw [eA16]; exact Fo_up fA15 (by first | exact Or.inr (il (show inr _ 40 by assumption) l_325) | (rw [l_325]; exact Or.inr (by decide)))
            obtain ⟨A17, eA17, h⟩ := bd_e h
            have fA17 : Fo A A17 := by rw [eA17]; exact Fo_up fA16 (by first | exact Or.inr (il (show inr _ 5 by assumption) l_320) | (rw [l_320]; exact Or.inr (by decide)))
            obtain ⟨⟨I18, A19⟩, hc20, h⟩ := Option.bind_eq_some_iff.mp h
            have fI18 : Fo I I18 := Fo_tr fI1 (qo_X7_changes I1 A17 a1 I18 A19 hc20).1
            have fA19 : Fo A A19 := Fo_tr fA17 (qo_X7_changes I1 A17 a1 I18 A19 hc20).2
            cases h; exact ⟨fI18, fA19⟩
        · have h := iN c_11 h
          cases h; exact ⟨fI1, fA⟩
set_option maxHeartbeats 4000000 in
set_option maxRecDepth 100000 in
theorem qo_X7_same (I : Nat → Nat → Int32) (a1 : Int32) (a2 : Int32) (r0 : Int32) (I0 : Nat → Nat → Int32) (h : f_X7_same I a1 a2 = some (r0, I0)) : Fo I I0 := by
  have fI : Fo I I := Fo_rf
  rw [f_X7_same] at h
  obtain ⟨I1, eI1, h⟩ := bd_e h
  have fI1 : Fo I I1 := by rw [eI1]; exact Fo_up fI (Or.inl (by decide))
  obtain ⟨r2, hc3, h⟩ := Option.bind_eq_some_iff.mp h
  by_cases c_4 : r2 = 0
  · have h := ip c_4 h
    cases h; exact fI1
  · have h := iN c_4 h
    obtain ⟨r5, hc6, h⟩ := Option.bind_eq_some_iff.mp h
    by_cases c_7 : r5 = 0
    · have h := ip c_7 h
      cases h; exact fI1
    · have h := iN c_7 h
      by_cases c_8 : (I1 318 23) = (-9)
      · have h := ip c_8 h
        cases h; exact fI1
      · have h := iN c_8 h
        cases h; exact fI1
set_option maxHeartbeats 4000000 in
set_option maxRecDepth 100000 in
theorem qo_X7_takes (I : Nat → Nat → Int32) (A : Nat → Nat → Int32) (a1 : Int32) (I0 : Nat → Nat → Int32) (A0 : Nat → Nat → Int32) (h : f_X7_takes I A a1 = some (I0, A0)) : Fo I I0 ∧ Fo A A0 := by
  have fI : Fo I I := Fo_rf
  have fA : Fo A A := Fo_rf
  rw [f_X7_takes] at h
  obtain ⟨hn1, h⟩ := gk h
  obtain ⟨A2, eA2, h⟩ := bd_e h
  have fA2 : Fo A A2 := by rw [eA2]; exact Fo_up fA (by first | exact Or.inr (il (show inr _ 2000 by assumption) l_345) | (rw [l_345]; exact Or.inr (by decide)))
  obtain ⟨hn3, h⟩ := gk h
  obtain ⟨A4, eA4, h⟩ := bd_e h
  have fA4 : Fo A A4 := by rw [eA4]; exact Fo_up fA2 (by first | exact Or.inr (il (show inr _ 250 by assumption) l_346) | (rw [l_346]; exact Or.inr (by decide)))
  obtain ⟨I5, eI5, h⟩ := bd_e h
  have fI5 : Fo I I5 := by rw [eI5]; exact Fo_up fI (Or.inl (by decide))
  cases h; exact ⟨fI5, fA4⟩
set_option maxHeartbeats 4000000 in
set_option maxRecDepth 100000 in
theorem qo_X7_second (I : Nat → Nat → Int32) (A : Nat → Nat → Int32) (a1 : Int32) (a2 : Int32) (r0 : Int32) (I0 : Nat → Nat → Int32) (A0 : Nat → Nat → Int32) (h : f_X7_second I A a1 a2 = some (r0, I0, A0)) : Fo I I0 ∧ Fo A A0 := by
  have fI : Fo I I := Fo_rf
  have fA : Fo A A := Fo_rf
  rw [f_X7_second] at h
  obtain ⟨I1, eI1, h⟩ := bd_e h
  have fI1 : Fo I I1 := by rw [eI1]; exact Fo_up fI (Or.inl (by decide))
  obtain ⟨r2, hc3, h⟩ := Option.bind_eq_some_iff.mp h
  by_cases c_4 : r2 = 0
  · have h := ip c_4 h
    cases h; exact ⟨fI1, fA⟩
  · have h := iN c_4 h
    obtain ⟨r5, hc6, h⟩ := Option.bind_eq_some_iff.mp h
    by_cases c_7 : r5 = 0
    · have h := ip c_7 h
      cases h; exact ⟨fI1, fA⟩
    · have h := iN c_7 h
      obtain ⟨⟨I8, A9⟩, hc10, h⟩ := Option.bind_eq_some_iff.mp h
      have fI8 : Fo I I8 := Fo_tr fI1 (qo_X7_aside I1 A I8 A9 hc10).1
      have fA9 : Fo A A9 := Fo_tr fA (qo_X7_aside I1 A I8 A9 hc10).2
      obtain ⟨⟨I11, A12⟩, hc13, h⟩ := Option.bind_eq_some_iff.mp h
      have fI11 : Fo I I11 := Fo_tr fI8 (qo_X7_begins I8 A9 a1 0 I11 A12 hc13).1
      have fA12 : Fo A A12 := Fo_tr fA9 (qo_X7_begins I8 A9 a1 0 I11 A12 hc13).2
      obtain ⟨r14, hc15, h⟩ := Option.bind_eq_some_iff.mp h
      obtain ⟨k22, ek22, h⟩ := bd_e h
      have kk22 : ∀ (v23 : Int32) (v24 : Int32) (I25 : Nat → Nat → Int32) (A26 : Nat → Nat → Int32), k22 v23 v24 I25 A26 = some (r0, I0, A0) → Fo I I25 → Fo A A26 → Fo I I0 ∧ Fo A A0 := by
        intro v23 v24 I25 A26 h fI25 fA26
        subst ek22
        obtain ⟨j29, ej29, h⟩ := bd_e h
        have kj29 : ∀ (z28 : Int32), j29 z28 = some (r0, I0, A0) → Fo I I0 ∧ Fo A A0 := by
          intro z28 h
          subst ej29
          obtain ⟨I30, eI30, h⟩ := bd_e h
          have fI30 : Fo I I30 := by rw [eI30]; exact Fo_up fI25 (Or.inl (by decide))
          obtain ⟨j34, ej34, h⟩ := bd_e h
          have kj34 : ∀ (z33 : Int32), j34 z33 = some (r0, I0, A0) → Fo I I0 ∧ Fo A A0 := by
            intro z33 h
            subst ej34
            obtain ⟨k38, ek38, h⟩ := bd_e h
            have kk38 : ∀ (A39 : Nat → Nat → Int32), k38 A39 = some (r0, I0, A0) → Fo A A39 → Fo I I0 ∧ Fo A A0 := by
              intro A39 h fA39
              subst ek38
              obtain ⟨⟨I40, A41⟩, hc42, h⟩ := Option.bind_eq_some_iff.mp h
              have fI40 : Fo I I40 := Fo_tr fI30 (qo_X7_aside I30 A39 I40 A41 hc42).1
              have fA41 : Fo A A41 := Fo_tr fA39 (qo_X7_aside I30 A39 I40 A41 hc42).2
              cases h; exact ⟨fI40, fA41⟩
            have lp35 : ∀ (n : Nat) (v36 : Int32) (A37 : Nat → Nat → Int32), f_X7_second_L188 z33 v23 I30 k38 n v36 A37 = some (r0, I0, A0) → Fo A A37 → Fo I I0 ∧ Fo A A0 := by
              intro n
              induction n with
              | zero => intro v36 A37 h; exact absurd h (by rw [f_X7_second_L188]; exact nofun)
              | succ n ih35 =>
                intro v36 A37 h fA37
                rw [f_X7_second_L188] at h
                by_cases c_43 : v36 < 6
                · have h := ip c_43 h
                  by_cases c_44 : v23 = (-9)
                  · have h := ip c_44 h
                    exact kk38 A37 h fA37
                  · have h := iN c_44 h
                    obtain ⟨hn45, h⟩ := gk h
                    obtain ⟨hn46, h⟩ := gk h
                    obtain ⟨A47, eA47, h⟩ := bd_e h
                    have fA47 : Fo A A47 := by rw [eA47]; exact Fo_up fA37 (by first | exact Or.inr (il (show inr _ 6 by assumption) l_363) | (rw [l_363]; exact Or.inr (by decide)))
                    exact ih35 (v36 + 1) A47 h fA47
                · have h := iN c_43 h
                  exact kk38 A37 h fA37
            exact lp35 FU 0 A26 h fA26
          by_cases c_48 : v23 = (-9)
          · have h := ip c_48 h
            by_cases c_49 : v24 = (-9)
            · have h := ip c_49 h
              exact kj34 (-1000000) h
            · have h := iN c_49 h
              exact kj34 (-1000001) h
          · have h := iN c_48 h
            obtain ⟨hn50, h⟩ := gk h
            exact kj34 (A26 341 v23.toNatClampNeg) h
        by_cases c_51 : v23 = (-9)
        · have h := ip c_51 h
          exact kj29 (-9) h
        · have h := iN c_51 h
          obtain ⟨hn52, h⟩ := gk h
          exact kj29 (A26 319 a1.toNatClampNeg) h
      have lp16 : ∀ (n : Nat) (v17 : Int32) (v18 : Int32) (v19 : Int32) (I20 : Nat → Nat → Int32) (A21 : Nat → Nat → Int32), f_X7_second_L49 a1 a2 k22 n v17 v18 v19 I20 A21 = some (r0, I0, A0) → Fo I I20 → Fo A A21 → Fo I I0 ∧ Fo A A0 := by
        intro n
        induction n with
        | zero => intro v17 v18 v19 I20 A21 h; exact absurd h (by rw [f_X7_second_L49]; exact nofun)
        | succ n ih16 =>
          intro v17 v18 v19 I20 A21 h fI20 fA21
          rw [f_X7_second_L49] at h
          by_cases c_53 : v17 = (-9)
          · have h := ip c_53 h
            exact kk22 v18 v17 I20 A21 h fI20 fA21
          · have h := iN c_53 h
            by_cases c_54 : (I20 318 31) < 250
            · have h := ip c_54 h
              by_cases c_55 : v18 = (-9)
              · have h := ip c_55 h
                obtain ⟨⟨I56, A57⟩, hc58, h⟩ := Option.bind_eq_some_iff.mp h
                have fI56 : Fo I I56 := Fo_tr fI20 (qo_X7_takes I20 A21 v17 I56 A57 hc58).1
                have fA57 : Fo A A57 := Fo_tr fA21 (qo_X7_takes I20 A21 v17 I56 A57 hc58).2
                obtain ⟨⟨I59, A60⟩, hc61, h⟩ := Option.bind_eq_some_iff.mp h
                have fI59 : Fo I I59 := Fo_tr fI56 (qo_X7_opens I56 A57 a1 v17 0 I59 A60 hc61).1
                have fA60 : Fo A A60 := Fo_tr fA57 (qo_X7_opens I56 A57 a1 v17 0 I59 A60 hc61).2
                obtain ⟨hn62, h⟩ := gk h
                obtain ⟨hn63, h⟩ := gk h
                by_cases c_64 : (A60 338 v17.toNatClampNeg) = (A60 319 a1.toNatClampNeg)
                · have h := ip c_64 h
                  by_cases c_67 : v19 = a2
                  · have h := ip c_67 h
                    obtain ⟨r70, hc71, h⟩ := Option.bind_eq_some_iff.mp h
                    exact ih16 r70 v17 (v19 + 1) I59 A60 h fI59 fA60
                  · have h := iN c_67 h
                    obtain ⟨r68, hc69, h⟩ := Option.bind_eq_some_iff.mp h
                    exact ih16 r68 (-9) (v19 + 1) I59 A60 h fI59 fA60
                · have h := iN c_64 h
                  obtain ⟨r65, hc66, h⟩ := Option.bind_eq_some_iff.mp h
                  exact ih16 r65 v18 v19 I59 A60 h fI59 fA60
              · have h := iN c_55 h
                exact kk22 v18 v17 I20 A21 h fI20 fA21
            · have h := iN c_54 h
              exact kk22 v18 v17 I20 A21 h fI20 fA21
      exact lp16 FU r14 (-9) 0 I11 A12 h fI11 fA12
set_option maxHeartbeats 4000000 in
set_option maxRecDepth 100000 in
theorem qo_X7_turnOf (I : Nat → Nat → Int32) (A : Nat → Nat → Int32) (a1 : Int32) (a2 : Int32) (I0 : Nat → Nat → Int32) (A0 : Nat → Nat → Int32) (h : f_X7_turnOf I A a1 a2 = some (I0, A0)) : Fo I I0 ∧ Fo A A0 := by
  have fI : Fo I I := Fo_rf
  have fA : Fo A A := Fo_rf
  rw [f_X7_turnOf] at h
  obtain ⟨hn1, h⟩ := gk h
  by_cases c_2 : (A 337 a2.toNatClampNeg) = (-9)
  · have h := ip c_2 h
    obtain ⟨k21, ek21, h⟩ := bd_e h
    have kk21 : ∀ (v22 : Int32), k21 v22 = some (I0, A0) → Fo I I0 ∧ Fo A A0 := by
      intro v22 h
      subst ek21
      by_cases c_23 : v22 = (-9)
      · have h := ip c_23 h
        obtain ⟨A24, eA24, h⟩ := bd_e h
        have fA24 : Fo A A24 := by rw [eA24]; exact Fo_up fA (by first | exact Or.inr (il (show inr _ 5 by assumption) l_332) | (rw [l_332]; exact Or.inr (by decide)))
        cases h; exact ⟨fI, fA24⟩
      · have h := iN c_23 h
        by_cases c_25 : ((I 318 30) - (I 318 31)) < 30
        · have h := ip c_25 h
          obtain ⟨A26, eA26, h⟩ := bd_e h
          have fA26 : Fo A A26 := by rw [eA26]; exact Fo_up fA (by first | exact Or.inr (il (show inr _ 5 by assumption) l_337) | (rw [l_337]; exact Or.inr (by decide)))
          obtain ⟨hn27, h⟩ := gk h
          obtain ⟨A28, eA28, h⟩ := bd_e h
          have fA28 : Fo A A28 := by rw [eA28]; exact Fo_up fA26 (by first | exact Or.inr (il (show inr _ 2000 by assumption) l_343) | (rw [l_343]; exact Or.inr (by decide)))
          obtain ⟨A29, eA29, h⟩ := bd_e h
          have fA29 : Fo A A29 := by rw [eA29]; exact Fo_up fA28 (by first | exact Or.inr (il (show inr _ 5 by assumption) l_336) | (rw [l_336]; exact Or.inr (by decide)))
          cases h; exact ⟨fI, fA29⟩
        · have h := iN c_25 h
          obtain ⟨A30, eA30, h⟩ := bd_e h
          have fA30 : Fo A A30 := by rw [eA30]; exact Fo_up fA (by first | exact Or.inr (il (show inr _ 5 by assumption) l_332) | (rw [l_332]; exact Or.inr (by decide)))
          cases h; exact ⟨fI, fA30⟩
    have lp18 : ∀ (n : Nat) (v19 : Int32) (v20 : Int32), f_X7_turnOf_L17 a2 I A k21 n v19 v20 = some (I0, A0) → Fo I I0 ∧ Fo A A0 := by
      intro n
      induction n with
      | zero => intro v19 v20 h; exact absurd h (by rw [f_X7_turnOf_L17]; exact nofun)
      | succ n ih18 =>
        intro v19 v20 h
        rw [f_X7_turnOf_L17] at h
        by_cases c_31 : v19 < (I 318 29)
        · have h := ip c_31 h
          obtain ⟨hn32, h⟩ := gk h
          by_cases c_33 : (A 343 v19.toNatClampNeg) = (-9)
          · have h := ip c_33 h
            by_cases c_34 : v20 = (-9)
            · have h := ip c_34 h
              exact ih18 (v19 + 1) v19 h
            · have h := iN c_34 h
              obtain ⟨r35, hc36, h⟩ := Option.bind_eq_some_iff.mp h
              by_cases c_37 : r35 = 0
              · have h := ip c_37 h
                exact ih18 (v19 + 1) v20 h
              · have h := iN c_37 h
                exact ih18 (v19 + 1) v19 h
          · have h := iN c_33 h
            exact ih18 (v19 + 1) v20 h
        · have h := iN c_31 h
          exact kk21 v20 h
    exact lp18 FU 0 (-9) h
  · have h := iN c_2 h
    obtain ⟨A3, eA3, h⟩ := bd_e h
    have fA3 : Fo A A3 := by rw [eA3]; exact Fo_up fA (by first | exact Or.inr (il (show inr _ 5 by assumption) l_337) | (rw [l_337]; exact Or.inr (by decide)))
    by_cases c_4 : 0 < (A3 335 a2.toNatClampNeg)
    · have h := ip c_4 h
      by_cases c_9 : (A3 336 a2.toNatClampNeg) = (A3 335 a2.toNatClampNeg)
      · have h := ip c_9 h
        obtain ⟨hn14, h⟩ := gk h
        obtain ⟨A15, eA15, h⟩ := bd_e h
        have fA15 : Fo A A15 := by rw [eA15]; exact Fo_up fA3 (by first | exact Or.inr (il (show inr _ 2000 by assumption) l_343) | (rw [l_343]; exact Or.inr (by decide)))
        obtain ⟨A16, eA16, h⟩ := bd_e h
        have fA16 : Fo A A16 := by rw [eA16]; exact Fo_up fA15 (by first | exact Or.inr (il (show inr _ 5 by assumption) l_335) | (rw [l_335]; exact Or.inr (by decide)))
        obtain ⟨A17, eA17, h⟩ := bd_e h
        have fA17 : Fo A A17 := by rw [eA17]; exact Fo_up fA16 (by first | exact Or.inr (il (show inr _ 5 by assumption) l_333) | (rw [l_333]; exact Or.inr (by decide)))
        cases h; exact ⟨fI, fA17⟩
      · have h := iN c_9 h
        obtain ⟨A10, eA10, h⟩ := bd_e h
        have fA10 : Fo A A10 := by rw [eA10]; exact Fo_up fA3 (by first | exact Or.inr (il (show inr _ 5 by assumption) l_334) | (rw [l_334]; exact Or.inr (by decide)))
        obtain ⟨⟨I11, A12⟩, hc13, h⟩ := Option.bind_eq_some_iff.mp h
        have fI11 : Fo I I11 := Fo_tr fI (qo_X7_opens I A10 a1 (A 337 a2.toNatClampNeg) 1 I11 A12 hc13).1
        have fA12 : Fo A A12 := Fo_tr fA10 (qo_X7_opens I A10 a1 (A 337 a2.toNatClampNeg) 1 I11 A12 hc13).2
        cases h; exact ⟨fI11, fA12⟩
    · have h := iN c_4 h
      obtain ⟨A5, eA5, h⟩ := bd_e h
      have fA5 : Fo A A5 := by rw [eA5]; exact Fo_up fA3 (by first | exact Or.inr (il (show inr _ 5 by assumption) l_334) | (rw [l_334]; exact Or.inr (by decide)))
      obtain ⟨⟨I6, A7⟩, hc8, h⟩ := Option.bind_eq_some_iff.mp h
      have fI6 : Fo I I6 := Fo_tr fI (qo_X7_opens I A5 a1 (A 337 a2.toNatClampNeg) 1 I6 A7 hc8).1
      have fA7 : Fo A A7 := Fo_tr fA5 (qo_X7_opens I A5 a1 (A 337 a2.toNatClampNeg) 1 I6 A7 hc8).2
      cases h; exact ⟨fI6, fA7⟩
set_option maxHeartbeats 4000000 in
set_option maxRecDepth 100000 in
theorem qo_X7_walks (I : Nat → Nat → Int32) (A : Nat → Nat → Int32) (a1 : Int32) (r0 : Int32) (I0 : Nat → Nat → Int32) (A0 : Nat → Nat → Int32) (h : f_X7_walks I A a1 = some (r0, I0, A0)) : Fo I I0 ∧ Fo A A0 := by
  have fI : Fo I I := Fo_rf
  have fA : Fo A A := Fo_rf
  rw [f_X7_walks] at h
  obtain ⟨r1, hc2, h⟩ := Option.bind_eq_some_iff.mp h
  obtain ⟨k7, ek7, h⟩ := bd_e h
  have kk7 : ∀ (I8 : Nat → Nat → Int32) (A9 : Nat → Nat → Int32), k7 I8 A9 = some (r0, I0, A0) → Fo I I8 → Fo A A9 → Fo I I0 ∧ Fo A A0 := by
    intro I8 A9 h fI8 fA9
    subst ek7
    cases h; exact ⟨fI8, fA9⟩
  obtain ⟨k10, ek10, h⟩ := bd_e h
  have kk10 : ∀ (I11 : Nat → Nat → Int32) (A12 : Nat → Nat → Int32), k10 I11 A12 = some (r0, I0, A0) → Fo I I11 → Fo A A12 → Fo I I0 ∧ Fo A A0 := by
    intro I11 A12 h fI11 fA12
    subst ek10
    cases h; exact ⟨fI11, fA12⟩
  obtain ⟨k13, ek13, h⟩ := bd_e h
  have kk13 : ∀ (I14 : Nat → Nat → Int32) (A15 : Nat → Nat → Int32), k13 I14 A15 = some (r0, I0, A0) → Fo I I14 → Fo A A15 → Fo I I0 ∧ Fo A A0 := by
    intro I14 A15 h fI14 fA15
    subst ek13
    cases h; exact ⟨fI14, fA15⟩
  obtain ⟨k16, ek16, h⟩ := bd_e h
  have kk16 : ∀ (v17 : Int32) (I18 : Nat → Nat → Int32) (A19 : Nat → Nat → Int32), k16 v17 I18 A19 = some (r0, I0, A0) → Fo I I18 → Fo A A19 → Fo I I0 ∧ Fo A A0 := by
    intro v17 I18 A19 h fI18 fA19
    subst ek16
    by_cases c_20 : v17 = (-9)
    · have h := ip c_20 h
      cases h; exact ⟨fI18, fA19⟩
    · have h := iN c_20 h
      cases h; exact ⟨fI18, fA19⟩
  have lp3 : ∀ (n : Nat) (v4 : Int32) (I5 : Nat → Nat → Int32) (A6 : Nat → Nat → Int32), f_X7_walks_L5 a1 k7 k10 k13 k16 n v4 I5 A6 = some (r0, I0, A0) → Fo I I5 → Fo A A6 → Fo I I0 ∧ Fo A A0 := by
    intro n
    induction n with
    | zero => intro v4 I5 A6 h; exact absurd h (by rw [f_X7_walks_L5]; exact nofun)
    | succ n ih3 =>
      intro v4 I5 A6 h fI5 fA6
      rw [f_X7_walks_L5] at h
      by_cases c_21 : v4 = (-9)
      · have h := ip c_21 h
        exact kk16 v4 I5 A6 h fI5 fA6
      · have h := iN c_21 h
        obtain ⟨hn22, h⟩ := gk h
        by_cases c_23 : (A6 344 v4.toNatClampNeg) = 0
        · have h := ip c_23 h
          exact kk16 v4 I5 A6 h fI5 fA6
        · have h := iN c_23 h
          obtain ⟨⟨I24, A25⟩, hc26, h⟩ := Option.bind_eq_some_iff.mp h
          have fI24 : Fo I I24 := Fo_tr fI5 (qo_X7_takes I5 A6 v4 I24 A25 hc26).1
          have fA25 : Fo A A25 := Fo_tr fA6 (qo_X7_takes I5 A6 v4 I24 A25 hc26).2
          obtain ⟨hn27, h⟩ := gk h
          by_cases c_28 : (A25 338 v4.toNatClampNeg) = (A25 319 a1.toNatClampNeg)
          · have h := ip c_28 h
            exact kk7 I24 A25 h fI24 fA25
          · have h := iN c_28 h
            by_cases c_29 : (I24 318 31) = 250
            · have h := ip c_29 h
              exact kk10 I24 A25 h fI24 fA25
            · have h := iN c_29 h
              by_cases c_30 : (I24 318 31) = (I24 318 24)
              · have h := ip c_30 h
                exact kk13 I24 A25 h fI24 fA25
              · have h := iN c_30 h
                obtain ⟨r31, hc32, h⟩ := Option.bind_eq_some_iff.mp h
                exact ih3 r31 I24 A25 h fI24 fA25
  exact lp3 FU r1 I A h fI fA
set_option maxHeartbeats 4000000 in
set_option maxRecDepth 100000 in
theorem qo_X7_solve (I : Nat → Nat → Int32) (A : Nat → Nat → Int32) (a1 : Int32) (a2 : Int32) (r0 : Int32) (I0 : Nat → Nat → Int32) (A0 : Nat → Nat → Int32) (h : f_X7_solve I A a1 a2 = some (r0, I0, A0)) : Fo I I0 ∧ Fo A A0 := by
  have fI : Fo I I := Fo_rf
  have fA : Fo A A := Fo_rf
  rw [f_X7_solve] at h
  obtain ⟨I1, eI1, h⟩ := bd_e h
  have fI1 : Fo I I1 := by rw [eI1]; exact Fo_up fI (Or.inl (by decide))
  obtain ⟨r2, hc3, h⟩ := Option.bind_eq_some_iff.mp h
  by_cases c_4 : r2 = 0
  · have h := ip c_4 h
    cases h; exact ⟨fI1, fA⟩
  · have h := iN c_4 h
    obtain ⟨r5, hc6, h⟩ := Option.bind_eq_some_iff.mp h
    by_cases c_7 : r5 = 0
    · have h := ip c_7 h
      cases h; exact ⟨fI1, fA⟩
    · have h := iN c_7 h
      obtain ⟨j9, ej9, h⟩ := bd_e h
      have kj9 : ∀ (_ : Unit), j9 () = some (r0, I0, A0) → Fo I I0 ∧ Fo A A0 := by
        intro _ h
        subst ej9
        obtain ⟨j33, ej33, h⟩ := bd_e h
        have kj33 : ∀ (I31 : Nat → Nat → Int32) (A32 : Nat → Nat → Int32), j33 I31 A32 = some (r0, I0, A0) → Fo I I31 → Fo A A32 → Fo I I0 ∧ Fo A A0 := by
          intro I31 A32 h fI31 fA32
          subst ej33
          obtain ⟨k38, ek38, h⟩ := bd_e h
          have kk38 : ∀ (v39 : Int32) (I40 : Nat → Nat → Int32) (A41 : Nat → Nat → Int32), k38 v39 I40 A41 = some (r0, I0, A0) → Fo I I40 → Fo A A41 → Fo I I0 ∧ Fo A A0 := by
            intro v39 I40 A41 h fI40 fA41
            subst ek38
            obtain ⟨⟨I42, A43⟩, hc44, h⟩ := Option.bind_eq_some_iff.mp h
            have fI42 : Fo I I42 := Fo_tr fI40 (qo_X7_endsAs I40 A41 a1 v39 I42 A43 hc44).1
            have fA43 : Fo A A43 := Fo_tr fA41 (qo_X7_endsAs I40 A41 a1 v39 I42 A43 hc44).2
            cases h; exact ⟨fI42, fA43⟩
          obtain ⟨k45, ek45, h⟩ := bd_e h
          have kk45 : ∀ (I46 : Nat → Nat → Int32) (A47 : Nat → Nat → Int32), k45 I46 A47 = some (r0, I0, A0) → Fo I I46 → Fo A A47 → Fo I I0 ∧ Fo A A0 := by
            intro I46 A47 h fI46 fA47
            subst ek45
            cases h; exact ⟨fI46, fA47⟩
          have lp34 : ∀ (n : Nat) (v35 : Int32) (I36 : Nat → Nat → Int32) (A37 : Nat → Nat → Int32), f_X7_solve_L143 a1 a2 k38 k45 n v35 I36 A37 = some (r0, I0, A0) → Fo I I36 → Fo A A37 → Fo I I0 ∧ Fo A A0 := by
            intro n
            induction n with
            | zero => intro v35 I36 A37 h; exact absurd h (by rw [f_X7_solve_L143]; exact nofun)
            | succ n ih34 =>
              intro v35 I36 A37 h fI36 fA37
              rw [f_X7_solve_L143] at h
              by_cases c_48 : v35 < a2
              · have h := ip c_48 h
                obtain ⟨j52, ej52, h⟩ := bd_e h
                have kj52 : ∀ (z51 : Int32), j52 z51 = some (r0, I0, A0) → Fo I I0 ∧ Fo A A0 := by
                  intro z51 h
                  subst ej52
                  obtain ⟨I53, eI53, h⟩ := bd_e h
                  have fI53 : Fo I I53 := by rw [eI53]; exact Fo_up fI36 (Or.inl (by decide))
                  by_cases c_54 : z51 < (I53 318 15)
                  · have h := ip c_54 h
                    obtain ⟨⟨I63, A64⟩, hc65, h⟩ := Option.bind_eq_some_iff.mp h
                    have fI63 : Fo I I63 := Fo_tr fI53 (qo_X7_turnOf I53 A37 a1 z51 I63 A64 hc65).1
                    have fA64 : Fo A A64 := Fo_tr fA37 (qo_X7_turnOf I53 A37 a1 z51 I63 A64 hc65).2
                    obtain ⟨⟨r66, I67, A68⟩, hc69, h⟩ := Option.bind_eq_some_iff.mp h
                    have fI67 : Fo I I67 := Fo_tr fI63 (qo_X7_walks I63 A64 a1 r66 I67 A68 hc69).1
                    have fA68 : Fo A A68 := Fo_tr fA64 (qo_X7_walks I63 A64 a1 r66 I67 A68 hc69).2
                    by_cases c_70 : 0 < r66
                    · have h := ip c_70 h
                      exact kk38 r66 I67 A68 h fI67 fA68
                    · have h := iN c_70 h
                      exact ih34 (v35 + 1) I67 A68 h fI67 fA68
                  · have h := iN c_54 h
                    obtain ⟨⟨I55, A56⟩, hc57, h⟩ := Option.bind_eq_some_iff.mp h
                    have fI55 : Fo I I55 := Fo_tr fI53 (qo_X7_turnOf I53 A37 a1 0 I55 A56 hc57).1
                    have fA56 : Fo A A56 := Fo_tr fA37 (qo_X7_turnOf I53 A37 a1 0 I55 A56 hc57).2
                    obtain ⟨⟨r58, I59, A60⟩, hc61, h⟩ := Option.bind_eq_some_iff.mp h
                    have fI59 : Fo I I59 := Fo_tr fI55 (qo_X7_walks I55 A56 a1 r58 I59 A60 hc61).1
                    have fA60 : Fo A A60 := Fo_tr fA56 (qo_X7_walks I55 A56 a1 r58 I59 A60 hc61).2
                    by_cases c_62 : 0 < r58
                    · have h := ip c_62 h
                      exact kk38 r58 I59 A60 h fI59 fA60
                    · have h := iN c_62 h
                      exact ih34 (v35 + 1) I59 A60 h fI59 fA60
                by_cases c_71 : (I36 318 28) < (I36 318 18)
                · have h := ip c_71 h
                  obtain ⟨hn73, h⟩ := gk h
                  exact kj52 (A37 331 ((I36 318 28).toNatClampNeg)) h
                · have h := iN c_71 h
                  obtain ⟨hz72, h⟩ := gk h
                  exact kj52 (((I36 318 28) - (I36 318 18)) - ((I36 318 28) - (I36 318 18)) / (I36 318 15) * (I36 318 15)) h
              · have h := iN c_48 h
                exact kk45 I36 A37 h fI36 fA37
          exact lp34 FU 0 I31 A32 h fI31 fA32
        by_cases c_74 : (I1 318 23) = (-9)
        · have h := ip c_74 h
          obtain ⟨I75, eI75, h⟩ := bd_e h
          have fI75 : Fo I I75 := by rw [eI75]; exact Fo_up fI1 (Or.inl (by decide))
          obtain ⟨I76, eI76, h⟩ := bd_e h
          have fI76 : Fo I I76 := by rw [eI76]; exact Fo_up fI75 (Or.inl (by decide))
          obtain ⟨I77, eI77, h⟩ := bd_e h
          have fI77 : Fo I I77 := by rw [eI77]; exact Fo_up fI76 (Or.inl (by decide))
          obtain ⟨k81, ek81, h⟩ := bd_e h
          have kk81 : ∀ (A82 : Nat → Nat → Int32), k81 A82 = some (r0, I0, A0) → Fo A A82 → Fo I I0 ∧ Fo A A0 := by
            intro A82 h fA82
            subst ek81
            obtain ⟨⟨I83, A84⟩, hc85, h⟩ := Option.bind_eq_some_iff.mp h
            have fI83 : Fo I I83 := Fo_tr fI77 (qo_X7_begins I77 A82 a1 1 I83 A84 hc85).1
            have fA84 : Fo A A84 := Fo_tr fA82 (qo_X7_begins I77 A82 a1 1 I83 A84 hc85).2
            by_cases c_86 : (I83 318 29) = 0
            · have h := ip c_86 h
              obtain ⟨⟨I87, A88⟩, hc89, h⟩ := Option.bind_eq_some_iff.mp h
              have fI87 : Fo I I87 := Fo_tr fI83 (qo_X7_endsAs I83 A84 a1 2 I87 A88 hc89).1
              have fA88 : Fo A A88 := Fo_tr fA84 (qo_X7_endsAs I83 A84 a1 2 I87 A88 hc89).2
              cases h; exact ⟨fI87, fA88⟩
            · have h := iN c_86 h
              exact kj33 I83 A84 h fI83 fA84
          have lp78 : ∀ (n : Nat) (v79 : Int32) (A80 : Nat → Nat → Int32), f_X7_solve_L75 a1 a2 I77 k81 n v79 A80 = some (r0, I0, A0) → Fo A A80 → Fo I I0 ∧ Fo A A0 := by
            intro n
            induction n with
            | zero => intro v79 A80 h; exact absurd h (by rw [f_X7_solve_L75]; exact nofun)
            | succ n ih78 =>
              intro v79 A80 h fA80
              rw [f_X7_solve_L75] at h
              by_cases c_90 : v79 < 5
              · have h := ip c_90 h
                obtain ⟨hn91, h⟩ := gk h
                obtain ⟨A92, eA92, h⟩ := bd_e h
                have fA92 : Fo A A92 := by rw [eA92]; exact Fo_up fA80 (by first | exact Or.inr (il (show inr _ 5 by assumption) l_335) | (rw [l_335]; exact Or.inr (by decide)))
                obtain ⟨A93, eA93, h⟩ := bd_e h
                have fA93 : Fo A A93 := by rw [eA93]; exact Fo_up fA92 (by first | exact Or.inr (il (show inr _ 5 by assumption) l_336) | (rw [l_336]; exact Or.inr (by decide)))
                obtain ⟨A94, eA94, h⟩ := bd_e h
                have fA94 : Fo A A94 := by rw [eA94]; exact Fo_up fA93 (by first | exact Or.inr (il (show inr _ 5 by assumption) l_334) | (rw [l_334]; exact Or.inr (by decide)))
                obtain ⟨A95, eA95, h⟩ := bd_e h
                have fA95 : Fo A A95 := by rw [eA95]; exact Fo_up fA94 (by first | exact Or.inr (il (show inr _ 5 by assumption) l_337) | (rw [l_337]; exact Or.inr (by decide)))
                exact ih78 (v79 + 1) A95 h fA95
              · have h := iN c_90 h
                exact kk81 A80 h fA80
          exact lp78 FU 0 A h fA
        · have h := iN c_74 h
          exact kj33 I1 A h fI1 fA
      by_cases c_96 : (I1 318 23) = (-9)
      · have h := ip c_96 h
        exact kj9 () h
      · have h := iN c_96 h
        by_cases c_97 : (I1 318 23) = a1
        · have h := ip c_97 h
          exact kj9 () h
        · have h := iN c_97 h
          cases h; exact ⟨fI1, fA⟩
set_option maxHeartbeats 4000000 in
set_option maxRecDepth 100000 in
theorem qo_X7_status (I : Nat → Nat → Int32) (r0 : Int32) (I0 : Nat → Nat → Int32) (h : f_X7_status I = some (r0, I0)) : Fo I I0 := by
  have fI : Fo I I := Fo_rf
  rw [f_X7_status] at h
  obtain ⟨I1, eI1, h⟩ := bd_e h
  have fI1 : Fo I I1 := by rw [eI1]; exact Fo_up fI (Or.inl (by decide))
  cases h; exact fI1
set_option maxHeartbeats 4000000 in
set_option maxRecDepth 100000 in
theorem qo_X7_told (I : Nat → Nat → Int32) (A : Nat → Nat → Int32) (a1 : Int32) (a2 : Int32) (r0 : Int32) (I0 : Nat → Nat → Int32) (h : f_X7_told I A a1 a2 = some (r0, I0)) : Fo I I0 := by
  have fI : Fo I I := Fo_rf
  have fA : Fo A A := Fo_rf
  rw [f_X7_told] at h
  obtain ⟨I1, eI1, h⟩ := bd_e h
  have fI1 : Fo I I1 := by rw [eI1]; exact Fo_up fI (Or.inl (by decide))
  obtain ⟨r2, hc3, h⟩ := Option.bind_eq_some_iff.mp h
  by_cases c_4 : r2 = 0
  · have h := ip c_4 h
    cases h; exact fI1
  · have h := iN c_4 h
    obtain ⟨r5, hc6, h⟩ := Option.bind_eq_some_iff.mp h
    by_cases c_7 : r5 = 0
    · have h := ip c_7 h
      cases h; exact fI1
    · have h := iN c_7 h
      obtain ⟨hn8, h⟩ := gk h
      by_cases c_9 : (A 351 a1.toNatClampNeg) = 0
      · have h := ip c_9 h
        cases h; exact fI1
      · have h := iN c_9 h
        obtain ⟨hn10, h⟩ := gk h
        cases h; exact fI1
set_option maxHeartbeats 4000000 in
set_option maxRecDepth 100000 in
theorem qo_X7_turn (I : Nat → Nat → Int32) (A : Nat → Nat → Int32) (a1 : Int32) (r0 : Int32) (I0 : Nat → Nat → Int32) (A0 : Nat → Nat → Int32) (h : f_X7_turn I A a1 = some (r0, I0, A0)) : Fo I I0 ∧ Fo A A0 := by
  have fI : Fo I I := Fo_rf
  have fA : Fo A A := Fo_rf
  rw [f_X7_turn] at h
  obtain ⟨I1, eI1, h⟩ := bd_e h
  have fI1 : Fo I I1 := by rw [eI1]; exact Fo_up fI (Or.inl (by decide))
  obtain ⟨r2, hc3, h⟩ := Option.bind_eq_some_iff.mp h
  by_cases c_4 : r2 = 0
  · have h := ip c_4 h
    cases h; exact ⟨fI1, fA⟩
  · have h := iN c_4 h
    by_cases c_5 : (I1 318 23) = (-9)
    · have h := ip c_5 h
      by_cases c_6 : (I1 318 18) = 200
      · have h := ip c_6 h
        cases h; exact ⟨fI1, fA⟩
      · have h := iN c_6 h
        obtain ⟨hn7, h⟩ := gk h
        obtain ⟨A8, eA8, h⟩ := bd_e h
        have fA8 : Fo A A8 := by rw [eA8]; exact Fo_up fA (by first | exact Or.inr (il (show inr _ 200 by assumption) l_331) | (rw [l_331]; exact Or.inr (by decide)))
        obtain ⟨I9, eI9, h⟩ := bd_e h
        have fI9 : Fo I I9 := by rw [eI9]; exact Fo_up fI1 (Or.inl (by decide))
        cases h; exact ⟨fI9, fA8⟩
    · have h := iN c_5 h
      cases h; exact ⟨fI1, fA⟩
set_option maxHeartbeats 4000000 in
set_option maxRecDepth 100000 in
theorem qo_X7_variable (I : Nat → Nat → Int32) (A : Nat → Nat → Int32) (a1 : Int32) (a2 : Int32) (a3 : Int32) (r0 : Int32) (I0 : Nat → Nat → Int32) (A0 : Nat → Nat → Int32) (h : f_X7_variable I A a1 a2 a3 = some (r0, I0, A0)) : Fo I I0 ∧ Fo A A0 := by
  have fI : Fo I I := Fo_rf
  have fA : Fo A A := Fo_rf
  rw [f_X7_variable] at h
  obtain ⟨I1, eI1, h⟩ := bd_e h
  have fI1 : Fo I I1 := by rw [eI1]; exact Fo_up fI (Or.inl (by decide))
  obtain ⟨r2, hc3, h⟩ := Option.bind_eq_some_iff.mp h
  by_cases c_4 : r2 = 0
  · have h := ip c_4 h
    cases h; exact ⟨fI1, fA⟩
  · have h := iN c_4 h
    obtain ⟨r5, hc6, h⟩ := Option.bind_eq_some_iff.mp h
    by_cases c_7 : r5 = 0
    · have h := ip c_7 h
      cases h; exact ⟨fI1, fA⟩
    · have h := iN c_7 h
      obtain ⟨r8, hc9, h⟩ := Option.bind_eq_some_iff.mp h
      by_cases c_10 : r8 = 0
      · have h := ip c_10 h
        cases h; exact ⟨fI1, fA⟩
      · have h := iN c_10 h
        by_cases c_11 : (I1 318 23) = (-9)
        · have h := ip c_11 h
          obtain ⟨hn12, h⟩ := gk h
          by_cases c_13 : (A 319 a1.toNatClampNeg) = 6
          · have h := ip c_13 h
            cases h; exact ⟨fI1, fA⟩
          · have h := iN c_13 h
            obtain ⟨hn14, h⟩ := gk h
            obtain ⟨A15, eA15, h⟩ := bd_e h
            have fA15 : Fo A A15 := by rw [eA15]; exact Fo_up fA (by first | exact Or.inr (il (show inr _ 30 by assumption) l_321) | (rw [l_321]; exact Or.inr (by decide)))
            obtain ⟨A16, eA16, h⟩ := bd_e h
            have fA16 : Fo A A16 := by rw [eA16]; exact Fo_up fA15 (by first | exact Or.inr (il (show inr _ 30 by assumption) l_322) | (rw [l_322]; exact Or.inr (by decide)))
            obtain ⟨A17, eA17, h⟩ := bd_e h
            have fA17 : Fo A A17 := by rw [eA17]; exact Fo_up fA16 (by first | exact Or.inr (il (show inr _ 5 by assumption) l_319) | (rw [l_319]; exact Or.inr (by decide)))
            obtain ⟨⟨I18, A19⟩, hc20, h⟩ := Option.bind_eq_some_iff.mp h
            have fI18 : Fo I I18 := Fo_tr fI1 (qo_X7_changes I1 A17 a1 I18 A19 hc20).1
            have fA19 : Fo A A19 := Fo_tr fA17 (qo_X7_changes I1 A17 a1 I18 A19 hc20).2
            cases h; exact ⟨fI18, fA19⟩
        · have h := iN c_11 h
          cases h; exact ⟨fI1, fA⟩
set_option maxHeartbeats 4000000 in
set_option maxRecDepth 100000 in
theorem qo_X7_walked (I : Nat → Nat → Int32) (A : Nat → Nat → Int32) (a1 : Int32) (a2 : Int32) (r0 : Int32) (I0 : Nat → Nat → Int32) (h : f_X7_walked I A a1 a2 = some (r0, I0)) : Fo I I0 := by
  have fI : Fo I I := Fo_rf
  have fA : Fo A A := Fo_rf
  rw [f_X7_walked] at h
  obtain ⟨I1, eI1, h⟩ := bd_e h
  have fI1 : Fo I I1 := by rw [eI1]; exact Fo_up fI (Or.inl (by decide))
  obtain ⟨r2, hc3, h⟩ := Option.bind_eq_some_iff.mp h
  by_cases c_4 : r2 = 0
  · have h := ip c_4 h
    cases h; exact fI1
  · have h := iN c_4 h
    obtain ⟨r5, hc6, h⟩ := Option.bind_eq_some_iff.mp h
    by_cases c_7 : r5 = 0
    · have h := ip c_7 h
      cases h; exact fI1
    · have h := iN c_7 h
      by_cases c_8 : a2 = 0
      · have h := ip c_8 h
        obtain ⟨hn16, h⟩ := gk h
        cases h; exact fI1
      · have h := iN c_8 h
        by_cases c_9 : a2 < 7
        · have h := ip c_9 h
          obtain ⟨hn15, h⟩ := gk h
          cases h; exact fI1
        · have h := iN c_9 h
          by_cases c_10 : a2 = 7
          · have h := ip c_10 h
            obtain ⟨hn14, h⟩ := gk h
            cases h; exact fI1
          · have h := iN c_10 h
            by_cases c_11 : a2 = 8
            · have h := ip c_11 h
              obtain ⟨hn13, h⟩ := gk h
              cases h; exact fI1
            · have h := iN c_11 h
              obtain ⟨hn12, h⟩ := gk h
              cases h; exact fI1
set_option maxHeartbeats 4000000 in
set_option maxRecDepth 100000 in
theorem qo_X7_with (I : Nat → Nat → Int32) (A : Nat → Nat → Int32) (a1 : Int32) (r0 : Int32) (I0 : Nat → Nat → Int32) (A0 : Nat → Nat → Int32) (h : f_X7_with I A a1 = some (r0, I0, A0)) : Fo I I0 ∧ Fo A A0 := by
  have fI : Fo I I := Fo_rf
  have fA : Fo A A := Fo_rf
  rw [f_X7_with] at h
  obtain ⟨I1, eI1, h⟩ := bd_e h
  have fI1 : Fo I I1 := by rw [eI1]; exact Fo_up fI (Or.inl (by decide))
  by_cases c_2 : (I1 318 57) = (-9)
  · have h := ip c_2 h
    cases h; exact ⟨fI1, fA⟩
  · have h := iN c_2 h
    obtain ⟨hn3, h⟩ := gk h
    by_cases c_4 : (I1 318 59) = (A 319 ((I1 318 57).toNatClampNeg))
    · have h := ip c_4 h
      cases h; exact ⟨fI1, fA⟩
    · have h := iN c_4 h
      obtain ⟨hn5, h⟩ := gk h
      obtain ⟨r6, hc7, h⟩ := Option.bind_eq_some_iff.mp h
      by_cases c_8 : r6 = 0
      · have h := ip c_8 h
        cases h; exact ⟨fI1, fA⟩
      · have h := iN c_8 h
        obtain ⟨hn9, h⟩ := gk h
        obtain ⟨A10, eA10, h⟩ := bd_e h
        have fA10 : Fo A A10 := by rw [eA10]; exact Fo_up fA (by first | exact Or.inr (il (show inr _ 6 by assumption) l_362) | (rw [l_362]; exact Or.inr (by decide)))
        obtain ⟨I11, eI11, h⟩ := bd_e h
        have fI11 : Fo I I11 := by rw [eI11]; exact Fo_up fI1 (Or.inl (by decide))
        cases h; exact ⟨fI11, fA10⟩

/-! part 95.aside -/
/-! THE TIE: aside -/
/-- two arrays change their places -/
def sw (R : Nat → Nat → Int32) (a b i : Nat) : Nat → Nat → Int32 := fun j m => if j = a ∧ m < i then R b m else if j = b ∧ m < i then R a m else R j m
theorem sw_0 {R : Nat → Nat → Int32} {a b : Nat} : sw R a b 0 = R := by
  funext j m
  unfold sw
  rw [if_neg (by omega), if_neg (by omega)]
theorem sw_s {R : Nat → Nat → Int32} {a b i : Nat} (h : a ≠ b) : up2 (up2 (sw R a b i) a i (R b i)) b i (R a i) = sw R a b (i + 1) := by
  funext j m
  unfold up2 sw
  by_cases h1 : j = b ∧ m = i
  · obtain ⟨rfl, rfl⟩ := h1
    rw [if_pos ⟨rfl, rfl⟩, if_neg (fun q => h q.1.symm), if_pos ⟨rfl, by omega⟩]
  · rw [if_neg h1]
    by_cases h2 : j = a ∧ m = i
    · obtain ⟨rfl, rfl⟩ := h2
      rw [if_pos ⟨rfl, rfl⟩, if_pos ⟨rfl, by omega⟩]
    · rw [if_neg h2]
      by_cases h3 : j = a ∧ m < i
      · rw [if_pos h3, if_pos (show j = a ∧ m < i + 1 from ⟨h3.1, by omega⟩)]
      · rw [if_neg h3, if_neg (show ¬ (j = a ∧ m < i + 1) from fun q => by
          rcases Nat.lt_or_ge m i with r | r
          · exact h3 ⟨q.1, r⟩
          · exact h2 ⟨q.1, by omega⟩)]
        by_cases h4 : j = b ∧ m < i
        · rw [if_pos h4, if_pos (show j = b ∧ m < i + 1 from ⟨h4.1, by omega⟩)]
        · rw [if_neg h4, if_neg (show ¬ (j = b ∧ m < i + 1) from fun q => by
            rcases Nat.lt_or_ge m i with r | r
            · exact h4 ⟨q.1, r⟩
            · exact h1 ⟨q.1, by omega⟩)]
theorem sw_a {R : Nat → Nat → Int32} {a b i : Nat} : sw R a b i a i = R a i := by
  unfold sw
  rw [if_neg (by omega)]
  by_cases h : a = b ∧ i < i
  · exact absurd h.2 (by omega)
  · rw [if_neg h]
theorem sw_b {R : Nat → Nat → Int32} {a b i : Nat} : sw R a b i b i = R b i := by
  unfold sw
  rw [if_neg (by omega), if_neg (by omega)]
theorem t_swap_L {R : Nat → Nat → Int32} {a b N : Nat} {k4 : (Nat → Nat → Int32) → Option (Nat → Nat → Int32)} (hab : a ≠ b) (ha : (a < NS ∧ 318 ≤ a) ∧ kd a = 8) (hb : (b < NS ∧ 318 ≤ b) ∧ kd b = 8) (la : ln a = N) (lb : ln b = N) (hN : N < 1073741824) : ∀ (k i fu : Nat), i + k = N → k < fu → f_X7_swap_L2 a b k4 fu (nI i) (sw R a b i) = k4 (sw R a b N) := by
  intro k
  induction k with
  | zero =>
    intro i fu hi hf
    obtain ⟨fu, rfl⟩ : ∃ z, fu = z + 1 := ⟨fu - 1, by omega⟩
    obtain rfl : N = i := by omega
    rw [f_X7_swap_L2, gd_t ha, la, if_neg (nI_nlt (Nat.le_refl _) (by omega))]
  | succ k ih =>
    intro i fu hi hf
    obtain ⟨fu, rfl⟩ : ∃ z, fu = z + 1 := ⟨fu - 1, by omega⟩
    rw [f_X7_swap_L2, gd_t ha, la, if_pos (nI_lt (by omega) (by omega))]
    simp (disch := omega) only [lb, gd_in, gd_t hb, t_cl, bd, nI_1, sw_a, sw_b, sw_s hab]
    exact ih (i + 1) fu (by omega) (by omega)
theorem t_swap {R : Nat → Nat → Int32} {a b N : Nat} (hab : a ≠ b) (ha : (a < NS ∧ 318 ≤ a) ∧ kd a = 8) (hb : (b < NS ∧ 318 ≤ b) ∧ kd b = 8) (la : ln a = N) (lb : ln b = N) (hN : N ≤ 12000) : f_X7_swap R a b = some (sw R a b N) := by
  unfold f_X7_swap
  simp only [bd]
  have q := t_swap_L (R := R) (k4 := fun A5 => some A5) hab ha hb la lb (by omega) N 0 FU (by omega) (t_fu _ (by omega))
  rw [sw_0] at q
  exact q
theorem nb_i {v : Int32} (h : v = 0 ∨ v = 1) : vp_nar .boolean v = v := by
  rcases h with rfl | rfl <;> rfl
theorem t_rnd_L {R : Nat → Nat → Int32} {a b N : Nat} {k4 : (Nat → Nat → Int32) → Option (Nat → Nat → Int32)} (hab : a ≠ b) (ha : (a < NS ∧ 318 ≤ a) ∧ kd a = 11) (hb : (b < NS ∧ 318 ≤ b) ∧ kd b = 11) (la : ln a = N) (lb : ln b = N) (hN : N < 1073741824) (h0 : ∀ x, (R a x = 0 ∨ R a x = 1) ∧ (R b x = 0 ∨ R b x = 1)) : ∀ (k i fu : Nat), i + k = N → k < fu → f_X7_turnRound_L2 a b k4 fu (nI i) (sw R a b i) = k4 (sw R a b N) := by
  intro k
  induction k with
  | zero =>
    intro i fu hi hf
    obtain ⟨fu, rfl⟩ : ∃ z, fu = z + 1 := ⟨fu - 1, by omega⟩
    obtain rfl : N = i := by omega
    rw [f_X7_turnRound_L2, gd_t ha, la, if_neg (nI_nlt (Nat.le_refl _) (by omega))]
  | succ k ih =>
    intro i fu hi hf
    obtain ⟨fu, rfl⟩ : ∃ z, fu = z + 1 := ⟨fu - 1, by omega⟩
    rw [f_X7_turnRound_L2, gd_t ha, la, if_pos (nI_lt (by omega) (by omega))]
    simp (disch := omega) only [lb, gd_in, gd_t hb, t_cl, bd, nI_1, sw_a, sw_b, nb_i (h0 i).1, nb_i (h0 i).2, sw_s hab]
    exact ih (i + 1) fu (by omega) (by omega)
theorem t_rnd {R : Nat → Nat → Int32} {a b N : Nat} (hab : a ≠ b) (ha : (a < NS ∧ 318 ≤ a) ∧ kd a = 11) (hb : (b < NS ∧ 318 ≤ b) ∧ kd b = 11) (la : ln a = N) (lb : ln b = N) (hN : N ≤ 12000) (h0 : ∀ x, (R a x = 0 ∨ R a x = 1) ∧ (R b x = 0 ∨ R b x = 1)) : f_X7_turnRound R a b = some (sw R a b N) := by
  unfold f_X7_turnRound
  simp only [bd]
  have q := t_rnd_L (R := R) (k4 := fun A5 => some A5) hab ha hb la lb (by omega) h0 N 0 FU (by omega) (t_fu _ (by omega))
  rw [sw_0] at q
  exact q
/-- i pairs have changed their places -/
def SP (R0 R : Nat → Nat → Int32) (i : Nat) : Prop := (∀ q m, q < i → m < ln (338 + q) → R (338 + q) m = R0 (366 + q) m ∧ R (366 + q) m = R0 (338 + q) m) ∧ ∀ j m, (¬ (338 ≤ j ∧ j < 338 + i) ∧ ¬ (366 ≤ j ∧ j < 366 + i)) ∨ ln j ≤ m → R j m = R0 j m
theorem l_pair : ∀ q, q < 12 → ln (366 + q) = ln (338 + q) ∧ ln (338 + q) ≤ 12000 ∧ ((q = 6 ∨ q = 7) ∨ kd (338 + q) = 8 ∧ kd (366 + q) = 8) := by decide +kernel
theorem SP_s {R0 R : Nat → Nat → Int32} {i : Nat} (h : SP R0 R i) (hi : i < 12) : SP R0 (sw R (338 + i) (366 + i) (ln (338 + i))) (i + 1) := by
  obtain ⟨h1, h2⟩ := h
  have el := (l_pair i hi).1
  refine ⟨fun q m hq hm => ?_, fun j m hj => ?_⟩
  · unfold sw
    by_cases e : q = i
    · subst e
      rw [if_pos ⟨rfl, hm⟩, if_neg (by omega), if_pos ⟨rfl, hm⟩]
      exact ⟨h2 _ _ (by omega), h2 _ _ (by omega)⟩
    · rw [if_neg (by omega), if_neg (by omega), if_neg (by omega), if_neg (by omega)]
      exact h1 q m (by omega) hm
  · unfold sw
    rw [if_neg (fun q => by
      obtain ⟨rfl, q2⟩ := q
      omega), if_neg (fun q => by
      obtain ⟨rfl, q2⟩ := q
      omega)]
    exact h2 j m (by omega)

/-! part 96.aside2 -/
/-! THE TIE: aside, whole (laid by gen96.py) -/
theorem t_aside {J R : Nat → Nat → Int32} (h9 : Q9 R) : ∃ R', f_X7_aside J R = some (up2 (up2 (up2 J 318 29 (R 365 0)) 318 30 (R 365 1)) 318 31 (R 365 2), R') ∧ R' 365 0 = J 318 29 ∧ R' 365 1 = J 318 30 ∧ R' 365 2 = J 318 31 ∧ (∀ q m, q < 12 → m < ln (338 + q) → R' (338 + q) m = R (366 + q) m ∧ R' (366 + q) m = R (338 + q) m) ∧ ∀ j m, j ≠ 365 → (¬ (338 ≤ j ∧ j < 350) ∧ ¬ (366 ≤ j ∧ j < 378)) ∨ ln j ≤ m → R' j m = R j m := by
  obtain ⟨A0, eA⟩ : ∃ z, z = up2 (up2 (up2 R 365 0 (J 318 29)) 365 1 (J 318 30)) 365 2 (J 318 31) := ⟨_, rfl⟩
  have oA : ∀ j m, j ≠ 365 → A0 j m = R j m := fun j m q => by rw [eA, up2_j q, up2_j q, up2_j q]
  have s0 : SP A0 A0 0 := ⟨fun q m hq => by omega, fun _ _ _ => rfl⟩
  obtain ⟨A1, e1, s1⟩ : ∃ z, f_X7_swap A0 338 366 = some z ∧ SP A0 z 1 := ⟨_, t_swap (by decide) ⟨⟨by decide, by decide⟩, by decide +kernel⟩ ⟨⟨by decide, by decide⟩, by decide +kernel⟩ rfl (l_pair 0 (by decide)).1 (l_pair 0 (by decide)).2.1, SP_s s0 (by decide)⟩
  obtain ⟨A2, e2, s2⟩ : ∃ z, f_X7_swap A1 339 367 = some z ∧ SP A0 z 2 := ⟨_, t_swap (by decide) ⟨⟨by decide, by decide⟩, by decide +kernel⟩ ⟨⟨by decide, by decide⟩, by decide +kernel⟩ rfl (l_pair 1 (by decide)).1 (l_pair 1 (by decide)).2.1, SP_s s1 (by decide)⟩
  obtain ⟨A3, e3, s3⟩ : ∃ z, f_X7_swap A2 340 368 = some z ∧ SP A0 z 3 := ⟨_, t_swap (by decide) ⟨⟨by decide, by decide⟩, by decide +kernel⟩ ⟨⟨by decide, by decide⟩, by decide +kernel⟩ rfl (l_pair 2 (by decide)).1 (l_pair 2 (by decide)).2.1, SP_s s2 (by decide)⟩
  obtain ⟨A4, e4, s4⟩ : ∃ z, f_X7_swap A3 341 369 = some z ∧ SP A0 z 4 := ⟨_, t_swap (by decide) ⟨⟨by decide, by decide⟩, by decide +kernel⟩ ⟨⟨by decide, by decide⟩, by decide +kernel⟩ rfl (l_pair 3 (by decide)).1 (l_pair 3 (by decide)).2.1, SP_s s3 (by decide)⟩
  obtain ⟨A5, e5, s5⟩ : ∃ z, f_X7_swap A4 342 370 = some z ∧ SP A0 z 5 := ⟨_, t_swap (by decide) ⟨⟨by decide, by decide⟩, by decide +kernel⟩ ⟨⟨by decide, by decide⟩, by decide +kernel⟩ rfl (l_pair 4 (by decide)).1 (l_pair 4 (by decide)).2.1, SP_s s4 (by decide)⟩
  obtain ⟨A6, e6, s6⟩ : ∃ z, f_X7_swap A5 343 371 = some z ∧ SP A0 z 6 := ⟨_, t_swap (by decide) ⟨⟨by decide, by decide⟩, by decide +kernel⟩ ⟨⟨by decide, by decide⟩, by decide +kernel⟩ rfl (l_pair 5 (by decide)).1 (l_pair 5 (by decide)).2.1, SP_s s5 (by decide)⟩
  have hb6 : ∀ x, (A6 344 x = 0 ∨ A6 344 x = 1) ∧ (A6 372 x = 0 ∨ A6 372 x = 1) := fun x => by
    rw [s6.2 344 x (by omega), s6.2 372 x (by omega), oA _ _ (by omega), oA _ _ (by omega)]
    exact ⟨h9 _ _ (by omega), h9 _ _ (by omega)⟩
  obtain ⟨A7, e7, s7⟩ : ∃ z, f_X7_turnRound A6 344 372 = some z ∧ SP A0 z 7 := ⟨_, t_rnd (by decide) ⟨⟨by decide, by decide⟩, by decide +kernel⟩ ⟨⟨by decide, by decide⟩, by decide +kernel⟩ rfl (l_pair 6 (by decide)).1 (l_pair 6 (by decide)).2.1 hb6, SP_s s6 (by decide)⟩
  have hb7 : ∀ x, (A7 345 x = 0 ∨ A7 345 x = 1) ∧ (A7 373 x = 0 ∨ A7 373 x = 1) := fun x => by
    rw [s7.2 345 x (by omega), s7.2 373 x (by omega), oA _ _ (by omega), oA _ _ (by omega)]
    exact ⟨h9 _ _ (by omega), h9 _ _ (by omega)⟩
  obtain ⟨A8, e8, s8⟩ : ∃ z, f_X7_turnRound A7 345 373 = some z ∧ SP A0 z 8 := ⟨_, t_rnd (by decide) ⟨⟨by decide, by decide⟩, by decide +kernel⟩ ⟨⟨by decide, by decide⟩, by decide +kernel⟩ rfl (l_pair 7 (by decide)).1 (l_pair 7 (by decide)).2.1 hb7, SP_s s7 (by decide)⟩
  obtain ⟨A9, e9, s9⟩ : ∃ z, f_X7_swap A8 346 374 = some z ∧ SP A0 z 9 := ⟨_, t_swap (by decide) ⟨⟨by decide, by decide⟩, by decide +kernel⟩ ⟨⟨by decide, by decide⟩, by decide +kernel⟩ rfl (l_pair 8 (by decide)).1 (l_pair 8 (by decide)).2.1, SP_s s8 (by decide)⟩
  obtain ⟨A10, e10, s10⟩ : ∃ z, f_X7_swap A9 347 375 = some z ∧ SP A0 z 10 := ⟨_, t_swap (by decide) ⟨⟨by decide, by decide⟩, by decide +kernel⟩ ⟨⟨by decide, by decide⟩, by decide +kernel⟩ rfl (l_pair 9 (by decide)).1 (l_pair 9 (by decide)).2.1, SP_s s9 (by decide)⟩
  obtain ⟨A11, e11, s11⟩ : ∃ z, f_X7_swap A10 348 376 = some z ∧ SP A0 z 11 := ⟨_, t_swap (by decide) ⟨⟨by decide, by decide⟩, by decide +kernel⟩ ⟨⟨by decide, by decide⟩, by decide +kernel⟩ rfl (l_pair 10 (by decide)).1 (l_pair 10 (by decide)).2.1, SP_s s10 (by decide)⟩
  obtain ⟨A12, e12, s12⟩ : ∃ z, f_X7_swap A11 349 377 = some z ∧ SP A0 z 12 := ⟨_, t_swap (by decide) ⟨⟨by decide, by decide⟩, by decide +kernel⟩ ⟨⟨by decide, by decide⟩, by decide +kernel⟩ rfl (l_pair 11 (by decide)).1 (l_pair 11 (by decide)).2.1, SP_s s11 (by decide)⟩
  refine ⟨A12, ?_, ?_, ?_, ?_, fun q m hq hm => ?_, fun j m hj h => ?_⟩
  · unfold f_X7_aside
    simp only [bd, ← eA, e1, e2, e3, e4, e5, e6, e7, e8, e9, e10, e11, e12, Option.bind_some]
  · rw [s12.2 365 0 (by omega), eA, up2_n (by omega), up2_n (by omega), up2_s]
  · rw [s12.2 365 1 (by omega), eA, up2_n (by omega), up2_s]
  · rw [s12.2 365 2 (by omega), eA, up2_s]
  · obtain ⟨x, y⟩ := s12.1 q m hq hm
    rw [x, y, oA _ _ (by omega), oA _ _ (by omega)]
    exact ⟨rfl, rfl⟩
  · rw [s12.2 j m (by omega), oA _ _ hj]

/-! part 97.sstep -/
/-! THE TIE: second: a step -/
section SE
variable {I A : Nat → Nat → Int32} {G : Nat → Nat → Nat} {L : Nat → Nat → Int64} {J R : Nat → Nat → Int32} {T B nv kn nn n0 p nr t : Nat} {sv : Prop} {fb : Nat → Option (Nat × Nat)} {tk tk' ex : Nat → Prop}
theorem TT_tkc (h : TT I A L J R T B nv kn nn sv fb tk ex) (hT : TrAt T) (ht : ∀ a, a < nn → fb a ≠ none → (tk a ↔ tk' a)) : TT I A L J R T B nv kn nn sv fb tk' ex := by
  have hnn := (tt_nn hT h).2
  obtain ⟨a, b, c, d, e, f⟩ := h
  refine ⟨a, b, c, d, e, fun n hn => ?_⟩
  obtain ⟨g1, g2, g3, g4⟩ := f n hn
  refine ⟨g1, g2, ?_, g4⟩
  rcases g3 with q | ⟨x, hx, q1, q2⟩
  · exact Or.inl q
  · have hne : fb x ≠ none := fun q => by
      rcases (f x (by omega)).2.2.2 with ⟨_, _, _, r⟩ | ⟨f', k', r, _⟩
      · exact r n hn q1
      · rw [q] at r; cases r
    refine Or.inr ⟨x, hx, q1, ?_⟩
    rcases q2 with ⟨q2, q3⟩ | ⟨q2, q3⟩
    · exact Or.inl ⟨(ht x (by omega) hne).mp q2, q3⟩
    · exact Or.inr ⟨fun r => q2 ((ht x (by omega) hne).mpr r), q3⟩
/-- the search of second() -/
def SX (I : Nat → Nat → Int32) (G : Nat → Nat → Nat) (A : Nat → Nat → Int32) (L : Nat → Nat → Int64) (J R : Nat → Nat → Int32) (p nv nr kn nn t : Nat) (fb : Nat → Option (Nat × Nat)) : Prop := G 46 14 = 58 + 52 * p ∧ TPr I A R p (58 + 52 * p) nv nr ∧ I 46 15 = 0 ∧ TT I A L J R 46 (58 + 52 * p) nv kn nn False fb (fun a => ¬ R 345 a = 0) (fun _ => False) ∧ FC A R (58 + 52 * p) nv nn fb ∧ I 46 10 = nI t ∧ J 318 30 = nI t ∧ I 46 11 = nI t ∧ J 318 31 = nI t ∧ kn ≤ 1 + 6 * t ∧ ∀ n, n < nn → R 345 n = 0 → R 344 n = 0
/-- what it leaves as it was -/
def XS (I A : Nat → Nat → Int32) (L : Nat → Nat → Int64) (J R I' A' : Nat → Nat → Int32) (L' : Nat → Nat → Int64) (J' R' : Nat → Nat → Int32) : Prop := (∀ j k, j ≠ 46 → j ≠ 57 → I' j k = I j k) ∧ (∀ j m, (j < 48 ∨ 56 < j) → A' j m = A j m) ∧ (∀ j m, j ≠ 47 → L' j m = L j m) ∧ (∀ j k, ¬ (j = 318 ∧ (k = 29 ∨ k = 30 ∨ k = 31 ∨ k = 64 ∨ k = 65)) → J' j k = J j k) ∧ (∀ j m, (j < 338 ∨ 349 < j) → j ≠ 364 → R' j m = R j m) ∧ Fb R R'
theorem XS_rf : XS I A L J R I A L J R := ⟨fun _ _ _ _ => rfl, fun _ _ _ => rfl, fun _ _ _ => rfl, fun _ _ _ => rfl, fun _ _ _ _ => rfl, Fb_rf⟩
theorem XS_tr {I1 A1 : Nat → Nat → Int32} {L1 : Nat → Nat → Int64} {J1 R1 I2 A2 : Nat → Nat → Int32} {L2 : Nat → Nat → Int64} {J2 R2 : Nat → Nat → Int32} (a : XS I A L J R I1 A1 L1 J1 R1) (b : XS I1 A1 L1 J1 R1 I2 A2 L2 J2 R2) : XS I A L J R I2 A2 L2 J2 R2 :=
  ⟨fun j k h1 h2 => (b.1 j k h1 h2).trans (a.1 j k h1 h2), fun j m h => (b.2.1 j m h).trans (a.2.1 j m h), fun j m h => (b.2.2.1 j m h).trans (a.2.2.1 j m h), fun j k h => (b.2.2.2.1 j k h).trans (a.2.2.2.1 j k h), fun j m h1 h2 => (b.2.2.2.2.1 j m h1 h2).trans (a.2.2.2.2.1 j m h1 h2), Fb_tr a.2.2.2.2.2 b.2.2.2.2.2⟩
theorem t_sstep (h : SX I G A L J R p nv nr kn nn t fb) (ht : t < 250) (hx : nxw R nn = some n0) : ∃ I1 A1 L1 I2 A2 J1 R1 J2 R2 kn' nn' fb', f_X5_finish I G A L 46 (nI (fi A 46 kn n0)) 0 = some (I1, A1, L1) ∧ f_X5_take I1 G A1 46 (nI (fi A 46 kn n0)) = some (I2, A2) ∧ f_X7_takes J R (nI n0) = some (J1, R1) ∧ f_X7_opens J1 R1 (nI p) (nI n0) 0 = some (J2, R2) ∧ SX I2 G A2 L1 J2 R2 p nv nr kn' nn' (t + 1) fb' ∧ n0 < nn' ∧ fi A2 46 kn' n0 = fi A 46 kn n0 ∧ XS I A L J R I2 A2 L1 J2 R2 := by
  obtain ⟨hG, hPr, hmt, hX, hF, hd1, hd2, ht1, ht2, hkn, h34⟩ := h
  have hT : TrAt 46 := Or.inr (Or.inr rfl)
  have hp5 := hPr.1
  obtain ⟨n1, n2, _⟩ := nxw_o hx
  have h44 := h34 n0 n1 n2
  have hl : lT 46 = 1501 := rfl
  have hf0 : fb n0 = none := by
    rcases hF.2 n0 n1 with ⟨a, _⟩ | ⟨f, _, b, _⟩
    · exact a
    · rw [h44] at b; exact absurd b z01
  obtain ⟨q1, q2⟩ := t_tk0 (t := t) hX hT n1 n2 ht ht2
  obtain ⟨J1, eJ1⟩ : ∃ z, z = up2 J 318 31 (nI (t + 1)) := ⟨_, rfl⟩
  obtain ⟨R1, eR1⟩ : ∃ z, z = up2 (up2 R 345 n0 1) 346 t (nI n0) := ⟨_, rfl⟩
  rw [← eJ1, ← eR1] at q1 q2
  have hR : ∀ j m, j ≠ 345 → j ≠ 346 → R1 j m = R j m := fun j m h1 h2 => by rw [eR1, up2_j h2, up2_j h1]
  have hR5 : ∀ m, m ≠ n0 → R1 345 m = R 345 m := fun m h => by rw [eR1, up2_j (by decide), up2_k h]
  have hR5' : R1 345 n0 = 1 := by rw [eR1, up2_j (by decide), up2_s]
  have hPr1 : TPr I A R1 p (58 + 52 * p) nv nr := TPr_of hPr (fun _ _ _ _ => rfl) (fun _ _ _ _ => rfl) (fun j k h1 h2 => hR j k (by omega) (by omega))
  obtain ⟨I1, A1, L1, J2, R2, kn', nn', o1, o2, o3, o4, o5, o6, o7, o8, o9, o10, o11, o12, ⟨x1, x2, x3, x4, x5, x6, x7, x8, x9, x10⟩, o14, o15⟩ := t_open (h := 0) (dd := t) (mt := 0) hT hG hPr1 hmt q2 n1 hf0 hF.1 (by omega) (by omega) hd1 (by rw [eJ1, up2_k (by decide)]; exact hd2)
  have hdn : ∀ m, m < nn → dn R2 m = dn R m := fun m hm => by unfold dn; rw [x9 338 m (by omega) (by omega) (by omega) hm (by omega), hR _ _ (by omega) (by omega)]
  have hdn1 : dn R1 n0 = dn R n0 := by unfold dn; rw [hR _ _ (by omega) (by omega)]
  have h245 : ∀ m, m < nn → R2 345 m = R1 345 m := fun m hm => x9 345 m (by omega) (by omega) (by omega) hm (by omega)
  have h244 : ∀ m, m < nn → m ≠ n0 → R2 344 m = R 344 m := fun m hm hne => by rw [x9 344 m (by omega) (by omega) (by omega) hm (by omega), hR _ _ (by omega) (by omega)]
  have hsz : ∀ x, szo A1 (58 + 52 * p) x = szo A (58 + 52 * p) x := fun x => by unfold szo; rw [x3 _ _ (by omega) (by omega)]
  obtain ⟨fb', efb⟩ : ∃ z, z = (fun n => if n = n0 then (if dn R1 n0 < nv then some (kn, szo A (58 + 52 * p) (dn R1 n0)) else none) else fb n) := ⟨_, rfl⟩
  rw [← efb] at o3
  have hF1 : FC A1 R2 (58 + 52 * p) nv nn' fb' := by
    refine ⟨fun m hm => ?_, fun m hm => ?_⟩
    · rw [efb]
      show (if m = n0 then _ else fb m) = none
      rw [if_neg (by omega)]
      exact hF.1 m (by omega)
    · rw [efb]
      by_cases e : m = n0
      · subst e
        by_cases e2 : dn R1 m < nv
        · refine Or.inr ⟨kn, ?_, o6, by rw [hdn m n1, ← hdn1]; exact e2⟩
          show (if m = m then _ else fb m) = _
          rw [if_pos rfl, if_pos e2, hsz, hdn m n1, hdn1]
        · refine Or.inl ⟨?_, fun q => e2 (by rw [hdn1, ← hdn m n1]; exact q.2)⟩
          show (if m = m then _ else fb m) = none
          rw [if_pos rfl, if_neg e2]
      · have e3 : (fun n => if n = n0 then (if dn R1 n0 < nv then some (kn, szo A (58 + 52 * p) (dn R1 n0)) else none) else fb n) m = fb m := if_neg e
        rw [e3]
        rcases Nat.lt_or_ge m nn with r | r
        · rw [h244 m r e, hdn m r, hsz]
          exact hF.2 m r
        · exact Or.inl ⟨hF.1 m r, fun q => by rw [o15 m r hm] at q; exact absurd q.1 z01⟩
  have hfb : ∀ a, a ≠ n0 → fb' a ≠ none → a < nn := fun a ha hne => by
    rcases Nat.lt_or_ge a nn with r | r
    · exact r
    · exact absurd (by rw [efb]; show (if a = n0 then _ else fb a) = none; rw [if_neg ha]; exact hF.1 a r) hne
  have hX2 : TT I1 A1 L1 J2 R2 46 (58 + 52 * p) nv kn' nn' False fb' (fun a => a ≠ n0 ∧ ¬ R2 345 a = 0) (fun n => n = n0) := TT_tkc o3 hT (fun a ha hne => by
    by_cases e : a = n0
    · exact ⟨fun q => absurd e q.1, fun q => absurd e q.1⟩
    · have := hfb a e hne
      rw [h245 a this, hR5 a e]
      exact ⟨fun q => ⟨e, q.2.2⟩, fun q => ⟨e, e, q.2⟩⟩)
  have h5n : R2 345 n0 = 1 := by rw [h245 n0 n1]; exact hR5'
  have hfi0 := o12 n0 n1
  obtain ⟨A2, q3, q4, q5, q6, q7⟩ := t_tk1 (G := G) (tk := fun a => ¬ R2 345 a = 0) (t := t) hX2 hT hG o14 hF1 (by omega) h5n o6 (fun s => s.elim) (fun a _ _ => Iff.rfl) ht (by rw [x2 _ (by decide) (by decide)]; exact ht1)
  rw [hfi0] at q3
  have hfi : fi A2 46 kn' = fi A1 46 kn' := by
    funext m; unfold fi; rw [os_c (A := A1) (A' := A2) (fun c _ => q5 _ _ (by omega) (by omega) (by omega))]
  refine ⟨I1, A1, L1, _, A2, J1, R1, J2, R2, kn', nn', fb', o1, q3, q1, o2, ⟨hG, TPr_of o14 (fun j k h1 h2 => up2_j (by omega)) (fun j k h1 h2 => q5 j k (by omega) (by omega) (by omega)) (fun _ _ _ _ => rfl), ?_, q4, FC_c hF1 (fun m => q5 _ _ (by omega) (by omega) (by omega)) (fun _ _ => rfl) (fun _ _ => rfl), ?_, o8, up2_s _ _ _ _, ?_, by omega, fun m hm hm5 => ?_⟩, by omega, by rw [hfi]; exact hfi0, ⟨fun j k h1 h2 => ?_, fun j m hj => ?_, fun j m hj => x5 j m hj, fun j k hj => ?_, fun j m h1 h2 => ?_, Fb_tr (qb_X7_takes J R (nI n0) J1 R1 q1).2 (qb_X7_opens J1 R1 (nI p) (nI n0) 0 J2 R2 o2).2⟩⟩
  · rw [up2_k (by decide), x2 _ (by decide) (by decide)]; exact hmt
  · rw [up2_k (by decide)]; exact o7
  · rw [x7 _ _ (by omega), eJ1, up2_s]
  · rcases Nat.lt_or_ge m nn with r | r
    · by_cases e : m = n0
      · subst e
        rw [h5n] at hm5
        exact absurd hm5 z10
      · rw [h244 m r e]
        rw [h245 m r, hR5 m e] at hm5
        exact h34 m r hm5
    · exact o15 m r hm
  · rw [up2_j h1]; exact x1 j k h1 h2
  · rw [q5 _ _ (by omega) (by omega) (by omega)]; exact x3 _ _ (by omega) (by omega)
  · rw [x7 _ _ (by omega), eJ1, up2_n (by omega)]
  · rw [x8 _ _ (by omega) h2]; exact hR _ _ (by omega) (by omega)
end SE

/-! part 98.sloop -/
/-! THE TIE: second: the search -/
section SL
variable {G : Nat → Nat → Nat} {p nv nr s : Nat} {k21 : (Nat → Nat → Int32) → (Nat → Nat → Int32) → (Nat → Nat → Int64) → Option (Int32 × (Nat → Nat → Int32) × (Nat → Nat → Nat) × (Nat → Nat → Int32) × (Nat → Nat → Int64))} {k25 : Int32 → (Nat → Nat → Int32) → (Nat → Nat → Int32) → (Nat → Nat → Int64) → Option (Int32 × (Nat → Nat → Int32) × (Nat → Nat → Nat) × (Nat → Nat → Int32) × (Nat → Nat → Int64))} {k34 : (Nat → Nat → Int32) → (Nat → Nat → Int32) → (Nat → Nat → Int64) → Option (Int32 × (Nat → Nat → Int32) × (Nat → Nat → Nat) × (Nat → Nat → Int32) × (Nat → Nat → Int64))} {k22 : Int32 → Int32 → (Nat → Nat → Int32) → (Nat → Nat → Int32) → Option (Int32 × (Nat → Nat → Int32) × (Nat → Nat → Int32))}
theorem r_found {a1 a2 v x c : Int32} {fu : Nat} {J R : Nat → Nat → Int32} (hf : 0 < fu) (hv : ¬ v = -9) : f_X7_second_L49 a1 a2 k22 fu x v c J R = k22 v x J R := by
  obtain ⟨fu, rfl⟩ : ∃ z, fu = z + 1 := ⟨fu - 1, by omega⟩
  rw [f_X7_second_L49, if_neg hv]
  split
  · rfl
  · split <;> rfl
theorem t_sec_L (hs : s ≤ 60) : ∀ (k t fu fu' seen kn nn : Nat) (fb : Nat → Option (Nat × Nat)) (I A : Nat → Nat → Int32) (L : Nat → Nat → Int64) (J R : Nat → Nat → Int32), t + k = 250 → k < fu → k + 1 < fu' → seen ≤ s → SX I G A L J R p nv nr kn nn t fb → ∃ I' A' L' J' R' kn' nn' t' fb', SX I' G A' L' J' R' p nv nr kn' nn' t' fb' ∧ XS I A L J R I' A' L' J' R' ∧ ((f_X6_second_L50 G k21 k25 k34 fu (nI t) (nI (s - seen)) I A L = k21 I' A' L' ∧ f_X7_second_L49 (nI p) (nI s) k22 fu' (enc (-9) (nxw R nn)) (-9) (nI seen) J R = k22 (-9) (-9) J' R') ∨ (∃ n0 x, n0 < nn' ∧ dn R' n0 = nv ∧ f_X6_second_L50 G k21 k25 k34 fu (nI t) (nI (s - seen)) I A L = k25 (nI (fi A' 46 kn' n0)) I' A' L' ∧ f_X7_second_L49 (nI p) (nI s) k22 fu' (enc (-9) (nxw R nn)) (-9) (nI seen) J R = k22 (nI n0) x J' R') ∨ (f_X6_second_L50 G k21 k25 k34 fu (nI t) (nI (s - seen)) I A L = k34 I' A' L' ∧ f_X7_second_L49 (nI p) (nI s) k22 fu' (enc (-9) (nxw R nn)) (-9) (nI seen) J R = k22 (-9) (enc (-9) (nxw R' nn')) J' R')) := by
  have hT : TrAt 46 := Or.inr (Or.inr rfl)
  have hl : lT 46 = 1501 := rfl
  intro k
  induction k with
  | zero =>
    intro t fu fu' seen kn nn fb I A L J R hk hf hf' hse h
    obtain ⟨fu, rfl⟩ : ∃ z, fu = z + 1 := ⟨fu - 1, by omega⟩
    obtain ⟨fu', rfl⟩ : ∃ z, fu' = z + 1 := ⟨fu' - 1, by omega⟩
    obtain rfl : t = 250 := by omega
    refine ⟨I, A, L, J, R, kn, nn, 250, fb, h, XS_rf, Or.inr (Or.inr ⟨?_, ?_⟩)⟩
    · rw [f_X6_second_L50, if_neg (by decide)]
    · have h31 := h.2.2.2.2.2.2.2.2.1
      rw [f_X7_second_L49, h31, if_neg (show ¬ nI 250 < 250 by decide)]
      split
      · rename_i e
        rw [e]
      · rfl
  | succ k ih =>
    intro t fu fu' seen kn nn fb I A L J R hk hf hf' hse h
    obtain ⟨fu, rfl⟩ : ∃ z, fu = z + 1 := ⟨fu - 1, by omega⟩
    obtain ⟨fu', rfl⟩ : ∃ z, fu' = z + 1 := ⟨fu' - 1, by omega⟩
    have hX := h.2.2.2.1
    have h31 := h.2.2.2.2.2.2.2.2.1
    have hp5 := h.2.1.1
    have hnn := (tt_nn hT hX).2
    rw [f_X6_second_L50, if_pos (show nI t < 250 from nI_lt (b := 250) (by omega) (by omega)), (t_nxw hX hT).1, Option.bind_some, f_X7_second_L49, h31, if_pos (show nI t < 250 from nI_lt (b := 250) (by omega) (by omega))]
    cases hx : nxw R nn with
    | none =>
      refine ⟨I, A, L, J, R, kn, nn, t, fb, h, XS_rf, Or.inl ⟨?_, ?_⟩⟩
      · rw [if_pos (show enc (-1) (Option.map (fi A 46 kn) none) = -1 from rfl)]
      · rw [if_pos (show enc (-9) none = -9 from rfl)]
        rfl
    | some n0 =>
      obtain ⟨n1, _⟩ := nxw_o hx
      obtain ⟨I1, A1, L1, I2, A2, J1, R1, J2, R2, kn', nn', fb', c1, c2, c3, c4, h', c5, c6, hXS⟩ := t_sstep h (by omega) hx
      have hX' := h'.2.2.2.1
      have hnn' := (tt_nn hT hX').2
      have hPr' := h'.2.1
      have hnv := hPr'.2.2.1.1
      obtain ⟨hns, _⟩ := hX'.2.2.2.2.2 n0 c5
      have hfl := fi_mem (A := A2) (T := 46) (kn := kn') (n := n0) (by have := hX'.1; omega)
      have hkl := hX'.2.2.2.1
      have hfull := t_full (I := I2) (A := A2) (G := G) (c := fi A2 46 kn' n0) (d := dn R2 n0) (nv := nv) hT h'.1 (tp_at hPr') (by omega) hns.2.2.1 hPr'.2.2.1.2.2.1 (by have := hns.1; omega) hnv
      rw [c6] at hfull hfl
      have e1 : enc (-1) (Option.map (fi A 46 kn) (some n0)) = nI (fi A 46 kn n0) := rfl
      have e9 : enc (-9) (some n0) = nI n0 := rfl
      have m1 : ¬ nI (fi A 46 kn n0) = -1 := t_m1 (by omega)
      have m9 : ¬ nI n0 = -9 := t_m9 (by omega)
      have h338 := hns.2.1
      have h319 := hPr'.2.2.2.1
      simp (disch := omega) only [e1, e9, if_neg m1, if_neg m9, c1, c2, c3, c4, hfull, Option.bind_some, if_true, gd_in, t_cl, (t_nxw hX' hT).2, nI_1, h338, h319]
      by_cases hd : dn R2 n0 < nv
      · simp only [if_pos hd, if_true, if_neg (show ¬ nI (dn R2 n0) = nI nv from fun q => by
          have := (t_eq (by omega) (by omega)).mp q
          omega)]
        obtain ⟨I', A', L', J', R', kn2, nn2, t2, fb2, y1, y2, y3⟩ := ih (t + 1) fu fu' seen kn' nn' fb' I2 A2 L1 J2 R2 (by omega) (by omega) (by omega) hse h'
        exact ⟨I', A', L', J', R', kn2, nn2, t2, fb2, y1, XS_tr hXS y2, y3⟩
      · have hd2 : dn R2 n0 = nv := by have := hns.1; omega
        simp only [if_neg hd, if_neg z10, if_pos (show nI (dn R2 n0) = nI nv by rw [hd2])]
        by_cases hse2 : seen = s
        · subst hse2
          have z0 : nI (seen - seen) = 0 := by rw [Nat.sub_self]; rfl
          simp only [if_pos z0, if_true]
          refine ⟨I2, A2, L1, J2, R2, kn', nn', t + 1, fb', h', hXS, Or.inr (Or.inl ⟨n0, _, c5, hd2, by rw [c6], r_found (by omega) m9⟩)⟩
        · have z0 : ¬ nI (s - seen) = 0 := fun q => by
            have := (t_eq (b := 0) (by omega) (by omega)).mp q
            omega
          have z1 : ¬ nI seen = nI s := fun q => by
            have := (t_eq (by omega) (by omega)).mp q
            omega
          have z2 : nI (s - seen) + (-1) = nI (s - (seen + 1)) := by
            have q := nI_s1 (show 0 < s - seen by omega)
            rw [Int32.sub_eq_add_neg] at q
            rw [q]
            congr 1
          simp only [if_neg z0, if_neg z1, z2]
          obtain ⟨I', A', L', J', R', kn2, nn2, t2, fb2, y1, y2, y3⟩ := ih (t + 1) fu fu' (seen + 1) kn' nn' fb' I2 A2 L1 J2 R2 (by omega) (by omega) (by omega) (by omega) h'
          exact ⟨I', A', L', J', R', kn2, nn2, t2, fb2, y1, XS_tr hXS y2, y3⟩
end SL

/-! part 99.second -/
/-! THE TIE: second -/
section SM
variable {I A : Nat → Nat → Int32} {G : Nat → Nat → Nat} {L : Nat → Nat → Int64} {J R I' A' J' R' : Nat → Nat → Int32} {G' : Nat → Nat → Nat} {L' : Nat → Nat → Int64} {n : Nat}
/-- what second() changes -/
theorem Rel_S (h : Rel n I G A L J R) (hI : ∀ j k, j ≠ 46 → j ≠ 57 → I' j k = I j k) (hG : ∀ j k, j ≠ 46 → G' j k = G j k) (hA : ∀ j m, j ≠ 19 → (j < 48 ∨ 56 < j) → A' j m = A j m) (hL : ∀ j m, j ≠ 47 → L' j m = L j m) (hJ : ∀ k, ¬ (k = 0 ∨ k = 61 ∨ k = 64 ∨ k = 65) → J' 318 k = J 318 k) (hR : ∀ j m, 319 ≤ j → j < 363 → R' j m = R j m) (h6 : Q6 A' J' R') (h9 : Q9 R') : Rel (n + 1) I' G' A' L' J' R' := by
  have hT := Rel_T h
  obtain ⟨np, z, sc, q1, q2, q3, q4, q5c, q5, q6, q7, q8, q9⟩ := h
  refine ⟨np, z, sc, Q1_of q1 (hI _ _ (by omega) (by omega)) (hJ _ (by omega)) (fun j k h1 h2 h3 => hI j k (by omega) (by omega)) (fun j k h1 h2 h3 => hA j k (by omega) (by omega)) (fun j k h1 h2 => hR j k (by omega) (by omega)), Q2_of q2 (fun k => hI _ _ (by omega) (by omega)) (hJ _ (by omega)) (hJ _ (by omega)) (fun j m h1 h2 => hA j m (by omega) (by omega)) (fun j m h1 h2 => hR j m (by omega) (by omega)), Q3_of q3 (fun p hp => hI _ _ (by omega) (by omega)) (fun p m hp => hA _ _ (by omega) (by omega)) (fun j m h1 h2 => hR j m (by omega) (by omega)), Q4_of q4 (hG _ _ (by omega)) (fun T h => hG _ _ (by omega)) (fun T h => hI _ _ (by omega) (by omega)) (hJ _ (by omega)) (fun T j m h1 h2 h3 => hA j m (by omega) (by omega)) (fun T m h => hL _ _ (by omega)) (fun j m h1 h2 => hR j m (by omega) (by omega)) (fun B nv hB e1 e2 => ⟨nv, Nat.le_refl _, e2, by rw [hI _ _ (by have := pr_ge hB; omega) (by have := pr_ge hB; omega)]; exact e1, fun m _ => hA _ _ (by have := pr_ge hB; omega) (by have := pr_ge hB; omega)⟩), Q5c_of q5c (Nat.le_succ n) (hJ _ (by omega)) (fun p hp => hI _ _ (by omega) (by omega)) (fun m => hR _ _ (by omega) (by omega)), Q5_of q5 (fun k _ _ => hI _ _ (by omega) (by omega)) (fun k _ _ => hJ k (by omega)) (fun p k hp _ _ => hI _ _ (by omega) (by omega)) (fun m => hA _ _ (by omega) (by omega)) (fun p m hp => hA _ _ (by omega) (by omega)) (fun m => hR _ _ (by omega) (by omega)) (fun m => hR _ _ (by omega) (by omega)) (Qn_of (hJ _ (by omega))), h6, ?_, Q8_of q8 (Nat.le_succ n) (hI _ _ (by omega) (by omega)) (hI _ _ (by omega) (by omega)) (hJ _ (by omega)) (hJ _ (by omega)) (hG _ _ (by omega)) (fun j k h => hI j k (by omega) (by omega)) (fun j k h => hG j k (by omega)) (fun j m h => hA j m (by omega) (by omega)) (fun j m h1 h2 => hL j m (by omega)) (fun k h => hJ k (by omega)) (fun j m h => hR j m (by omega) (by omega)), h9⟩
  exact ⟨by rw [hI _ _ (by omega) (by omega), hJ _ (by omega)]; exact q7.1, by rw [hI _ _ (by omega) (by omega)]; exact q7.2⟩
theorem r_L188 {z33 : Int32} {n0 : Nat} {I30 R0 : Nat → Nat → Int32} {k38 : (Nat → Nat → Int32) → Option (Int32 × (Nat → Nat → Int32) × (Nat → Nat → Int32))} (hn : n0 < 2000) : ∀ (k i fu : Nat) (R : Nat → Nat → Int32), i + k = 6 → k < fu → (∀ m, m < i → R 363 m = R0 339 (6 * n0 + m)) → (∀ j m, j ≠ 363 → R j m = R0 j m) → ∃ R', f_X7_second_L188 z33 (nI n0) I30 k38 fu (nI i) R = k38 R' ∧ (∀ m, m < 6 → R' 363 m = R0 339 (6 * n0 + m)) ∧ ∀ j m, j ≠ 363 → R' j m = R0 j m := by
  intro k
  induction k with
  | zero =>
    intro i fu R hi hf h1 h2
    obtain ⟨fu, rfl⟩ : ∃ z, fu = z + 1 := ⟨fu - 1, by omega⟩
    obtain rfl : i = 6 := by omega
    rw [f_X7_second_L188, if_neg (by decide)]
    exact ⟨R, rfl, h1, h2⟩
  | succ k ih =>
    intro i fu R hi hf h1 h2
    obtain ⟨fu, rfl⟩ : ∃ z, fu = z + 1 := ⟨fu - 1, by omega⟩
    rw [f_X7_second_L188, if_pos (show nI i < 6 from nI_lt (b := 6) (by omega) (by omega)), if_neg (t_m9 (by omega))]
    simp (disch := omega) only [bd, m6, gd_in, t_cl, nI_1]
    refine ih (i + 1) fu _ (by omega) (by omega) (fun m hm => ?_) (fun j m q => by rw [up2_j q]; exact h2 j m q)
    by_cases e : m = i
    · subst e
      rw [up2_s]; exact h2 _ _ (by decide)
    · rw [up2_k e]; exact h1 m (by omega)
end SM

/-! part 9a.second2 -/
/-! THE TIE: second, whole -/
section SN
variable {I A : Nat → Nat → Int32} {G : Nat → Nat → Nat} {L : Nat → Nat → Int64} {J R : Nat → Nat → Int32} {n : Nat}
noncomputable def kA (G11 : Nat → Nat → Nat) : (Nat → Nat → Int32) → (Nat → Nat → Int32) → (Nat → Nat → Int64) → Option (Int32 × (Nat → Nat → Int32) × (Nat → Nat → Nat) × (Nat → Nat → Int32) × (Nat → Nat → Int64)) := fun I22 A23 L24 => some (((-1000000) : Int32), I22, G11, A23, L24)
noncomputable def kB (G11 : Nat → Nat → Nat) : Int32 → (Nat → Nat → Int32) → (Nat → Nat → Int32) → (Nat → Nat → Int64) → Option (Int32 × (Nat → Nat → Int32) × (Nat → Nat → Nat) × (Nat → Nat → Int32) × (Nat → Nat → Int64)) := fun v26 I27 A28 L29 => Option.bind (f_X5_copyValues A28 L29 46 v26 19 0) fun A30 => Option.bind (f_X5_boundOf L29 46 v26) fun r32 => some (r32, I27, G11, A30, L29)
noncomputable def kC (G11 : Nat → Nat → Nat) : (Nat → Nat → Int32) → (Nat → Nat → Int32) → (Nat → Nat → Int64) → Option (Int32 × (Nat → Nat → Int32) × (Nat → Nat → Nat) × (Nat → Nat → Int32) × (Nat → Nat → Int64)) := fun I35 A36 L37 => Option.bind (f_X5_nextOfWalk I35 A36 L37 46) fun r38 => if r38 = (-1) then (some (((-1000000) : Int32), I35, G11, A36, L37)) else (some (((-1000001) : Int32), I35, G11, A36, L37))
noncomputable def kD (a1 : Int32) : Int32 → Int32 → (Nat → Nat → Int32) → (Nat → Nat → Int32) → Option (Int32 × (Nat → Nat → Int32) × (Nat → Nat → Int32)) := fun v23 v24 I25 A26 => bd (fun (z28 : Int32) => bd (up2 I25 318 61 z28) fun I30 => bd (fun (z33 : Int32) => bd (fun (A39 : Nat → Nat → Int32) => Option.bind (f_X7_aside I30 A39) fun (I40, A41) => some (z33, I40, A41)) fun k38 => f_X7_second_L188 z33 v23 I30 k38 FU 0 A26) fun j34 => if v23 = (-9) then (if v24 = (-9) then (j34 (-1000000)) else (j34 (-1000001))) else (gd (inr v23 2000) <| j34 (A26 341 v23.toNatClampNeg))) fun j29 => if v23 = (-9) then (j29 (-9)) else (gd (inr a1 5) <| j29 (A26 319 a1.toNatClampNeg))
/-- no node found -/
theorem kD_n {a1 x : Int32} (h9 : Q9 R) : ∃ R', kD a1 (-9) x J R = some ((if x = -9 then -1000000 else -1000001), up2 (up2 (up2 (up2 J 318 61 (-9)) 318 29 (R 365 0)) 318 30 (R 365 1)) 318 31 (R 365 2), R') ∧ (∀ q m, q < 12 → m < ln (338 + q) → R' (338 + q) m = R (366 + q) m) ∧ ∀ j m, j ≠ 365 → (¬ (338 ≤ j ∧ j < 350) ∧ ¬ (366 ≤ j ∧ j < 378)) ∨ ln j ≤ m → R' j m = R j m := by
  obtain ⟨R', e, _, _, _, a, b⟩ := t_aside (J := up2 J 318 61 (-9)) h9
  obtain ⟨fu, ef⟩ : ∃ z, FU = z + 1 := ⟨FU - 1, by have := FU_le; omega⟩
  refine ⟨R', ?_, fun q m h1 h2 => (a q m h1 h2).1, b⟩
  unfold kD
  simp only [bd, if_true]
  rw [ef]
  simp only [f_X7_second_L188, if_pos (show (0 : Int32) < 6 by decide), if_true, e, Option.bind_some]
  split <;> rfl
/-- a node found -/
theorem kD_f {x : Int32} {p n0 : Nat} (h9 : Q9 R) (hp : p < 5) (hn : n0 < 2000) : ∃ R', kD (nI p) (nI n0) x J R = some (R 341 n0, up2 (up2 (up2 (up2 J 318 61 (R 319 p)) 318 29 (R 365 0)) 318 30 (R 365 1)) 318 31 (R 365 2), R') ∧ (∀ m, m < 6 → R' 363 m = R 339 (6 * n0 + m)) ∧ (∀ q m, q < 12 → m < ln (338 + q) → R' (338 + q) m = R (366 + q) m) ∧ ∀ j m, j ≠ 365 → j ≠ 363 → (¬ (338 ≤ j ∧ j < 350) ∧ ¬ (366 ≤ j ∧ j < 378)) ∨ ln j ≤ m → R' j m = R j m := by
  have m9 : ¬ nI n0 = -9 := t_m9 (by omega)
  obtain ⟨R1, e1, e2, e3⟩ := r_L188 (z33 := R 341 n0) (I30 := up2 J 318 61 (R 319 p)) (R0 := R) (k38 := fun A39 => Option.bind (f_X7_aside (up2 J 318 61 (R 319 p)) A39) fun (I40, A41) => some (R 341 n0, I40, A41)) hn 6 0 FU R (by omega) (t_fu _ (by omega)) (fun m hm => by omega) (fun _ _ _ => rfl)
  have h91 : Q9 R1 := fun j x q => by rw [e3 _ _ (by omega)]; exact h9 j x q
  obtain ⟨R', e, _, _, _, a, b⟩ := t_aside (J := up2 J 318 61 (R 319 p)) h91
  refine ⟨R', ?_, fun m hm => by rw [b _ _ (by decide) (Or.inl (by omega))]; exact e2 m hm, fun q m h1 h2 => by rw [(a q m h1 h2).1, e3 _ _ (by omega)], fun j m h1 h2 h3 => by rw [b j m h1 h3, e3 j m h2]⟩
  unfold kD
  simp (disch := omega) only [bd, if_neg m9, gd_in, t_cl]
  refine Eq.trans e1 ?_
  rw [e, Option.bind_some, e3 365 0 (by decide), e3 365 1 (by decide), e3 365 2 (by decide)]
end SN

/-! part 9b.second3 -/
/-! THE TIE: second, the call -/
section SO
variable {I A : Nat → Nat → Int32} {G : Nat → Nat → Nat} {L : Nat → Nat → Int64} {J R : Nat → Nat → Int32} {n : Nat}
theorem k_second0 (a1 a2 : Int32) (h : Rel n I G A L J R) : ∃ r I' G' A' L' J' R', f_X6_second I G A L a1 a2 = some (r, I', G', A', L') ∧ f_X7_second J R a1 a2 = some (r, J', R') ∧ (Q9 R' → Fo R R' → Rel (n + 1) I' G' A' L' J' R') := by
  have hr := Rel_J0 h
  have h9 := Rel_9 h
  obtain ⟨np, z, sc, ⟨p1, p2, p3, p4⟩, _⟩ := id h
  have e : ∀ k, k ≠ 0 → up2 J 318 0 0 318 k = J 318 k := fun k q => up0 q
  unfold f_X6_second f_X7_second
  simp only [bd, (t_wi a2 0 60).1, (t_wi a2 0 60).2, Option.bind_some]
  rcases t_isP (a := a1) (I := I) (J := up2 J 318 0 0) p2 ((e 2 (by decide)).trans p3) p1 with ⟨p, hp, rfl, e1, e2⟩ | ⟨e1, e2⟩
  · rw [e1, e2, Option.bind_some, Option.bind_some, if_neg z10, if_neg z10]
    rcases t_rng (a := a2) (hi := 60) (by omega) with ⟨s, hs, rfl⟩ | hc
    · rw [if_pos (show ¬ nI s < 0 ∧ ¬ 60 < nI s from t_rng1 (hi := 60) (by omega) hs), if_neg z10, if_neg z10]
      have hp5 : p < 5 := by omega
      obtain ⟨⟨nv, nr, hP⟩, _⟩ := p4 p hp5
      have hnv := hP.2.2.1.1
      have hT : TrAt 46 := Or.inr (Or.inr rfl)
      have i19 : IA 19 6 := ⟨by decide, by decide +kernel, by decide +kernel⟩
      obtain ⟨A7, eA7⟩ : ∃ z, z = fil A 19 6 (-9) := ⟨_, rfl⟩
      have oA7 : ∀ j m, j ≠ 19 → A7 j m = A j m := fun j m q => by rw [eA7, fil_j q]
      obtain ⟨R9, b0, b1, b2, b3, b4, b5⟩ := t_aside (J := up2 J 318 0 0) h9
      obtain ⟨J8, eJ8⟩ : ∃ z, z = up2 (up2 (up2 (up2 J 318 0 0) 318 29 (R 365 0)) 318 30 (R 365 1)) 318 31 (R 365 2) := ⟨_, rfl⟩
      rw [← eJ8] at b0
      have oJ8 : ∀ k, ¬ (k = 0 ∨ k = 29 ∨ k = 30 ∨ k = 31) → J8 318 k = J 318 k := fun k q => by rw [eJ8, up2_n (by omega), up2_n (by omega), up2_n (by omega), up2_n (by omega)]
      have h99 : Q9 R9 := (qb_X7_aside _ _ _ _ b0).2 h9
      have hP9 : TPr I A7 R9 p (58 + 52 * p) nv nr := TPr_of hP (fun _ _ _ _ => rfl) (fun j k _ _ => oA7 j k (by omega)) (fun j k _ _ => b5 j k (by omega) (Or.inl (by omega)))
      obtain ⟨I1, A1, L1, J1, R1, nn, c1, c2, c3, c4, c5, c6, c7, c8, c9, c10, c11, c12, ⟨x1, x2, x3, x4, x5⟩⟩ := t_plant (G := G) (L := L) (J := J8) (sv := False) hT hP9 (Or.inl rfl)
      have hSX : SX I1 (up2 G 46 14 (58 + 52 * p)) A1 L1 J1 R1 p nv nr 1 nn 0 (fun _ => none) := ⟨up2_s _ _ _ _, c12, c11, c3, c5, c7, c8, c9, c10, by omega, fun m hm _ => (c6 m hm).1⟩
      have h91 : Q9 R1 := (qb_X7_begins _ _ _ _ _ _ c2).2 h99
      obtain ⟨I2, A2, L2, J2, R2, kn, nn2, t2, fb, hS2, ⟨y1, y2, y3, y4, y5, y6⟩, hcase⟩ := t_sec_L (G := up2 G 46 14 (58 + 52 * p)) (k21 := kA (up2 G 46 14 (58 + 52 * p))) (k25 := kB (up2 G 46 14 (58 + 52 * p))) (k34 := kC (up2 G 46 14 (58 + 52 * p))) (k22 := kD (nI p)) hs 250 0 FU FU 0 1 nn _ I1 A1 L1 J1 R1 (by omega) (t_fu _ (by omega)) (t_fu _ (by omega)) (by omega) hSX
      have h92 : Q9 R2 := y6 h91
      have hI2 : ∀ j k, j ≠ 46 → j ≠ 57 → I2 j k = I j k := fun j k q1 q2 => by rw [y1 j k q1 q2, x1 j k q1 q2]
      have hA2 : ∀ j m, j ≠ 19 → (j < 48 ∨ 56 < j) → A2 j m = A j m := fun j m q1 q2 => by rw [y2 j m q2, x2 j m (by omega) (by omega), oA7 j m q1]
      have hA19 : ∀ m, m < 6 → A2 19 m = -9 := fun m hm => by
        rw [y2 _ _ (by omega), x2 _ _ (by omega) (by omega), eA7]
        unfold fil
        rw [if_pos ⟨rfl, hm⟩]
      have hL2 : ∀ j m, j ≠ 47 → L2 j m = L j m := fun j m q => by rw [y3 j m q, x3 j m q]
      have hG2 : ∀ j k, j ≠ 46 → up2 G 46 14 (58 + 52 * p) j k = G j k := fun j k q => up2_j q
      have hJ2 : ∀ k, ¬ (k = 0 ∨ k = 29 ∨ k = 30 ∨ k = 31 ∨ k = 64 ∨ k = 65) → J2 318 k = J 318 k := fun k q => by rw [y4 _ _ (by omega), x4 _ _ (by omega), oJ8 k (by omega)]
      have hR2 : ∀ j m, (j < 338 ∨ 349 < j) → j ≠ 364 → R2 j m = R9 j m := fun j m q1 q2 => by rw [y5 j m q1 q2, x5 j m (by omega) q2]
      have hcls : ∀ w, f_X6_second_L50 (up2 G 46 14 (58 + 52 * p)) (kA (up2 G 46 14 (58 + 52 * p))) (kB (up2 G 46 14 (58 + 52 * p))) (kC (up2 G 46 14 (58 + 52 * p))) FU 0 (nI s) I1 A1 L1 = w → (Option.bind (f_J7_fill_53178 A 19 (-9)) fun A7 => gd (inr (nI p) 5) <| Option.bind (f_X5_plant I G A7 L 46 (58 + 52 * (nI p).toNatClampNeg) 0) fun (I10, G11, A12, L13) => f_X6_second_L50 G11 (kA G11) (kB G11) (kC G11) FU 0 (nI s) I10 A12 L13) = w := fun w hw => by
        rw [t_fill i19 (by decide) (by decide), Option.bind_some, ← eA7, gd_in hp5 (by decide), t_cl (show p < 2147483648 by omega), c1]
        exact hw
      have href : ∀ w, f_X7_second_L49 (nI p) (nI s) (kD (nI p)) FU (enc (-9) (nxw R1 nn)) (-9) 0 J1 R1 = w → (Option.bind (f_X7_aside (up2 J 318 0 0) R) fun (I8, A9) => Option.bind (f_X7_begins I8 A9 (nI p) 0) fun (I11, A12) => Option.bind (f_X7_nextOf I11 A12) fun r14 => f_X7_second_L49 (nI p) (nI s) (kD (nI p)) FU r14 (-9) 0 I11 A12) = w := fun w hw => by
        rw [b0]
        simp only [Option.bind_some]
        rw [c2]
        simp only [Option.bind_some]
        rw [(t_nxw c3 hT).2]
        exact hw
      -- what stands behind it
      have hfin : ∀ (A3 R3 : Nat → Nat → Int32) (w : Int32), (∀ j m, j ≠ 19 → A3 j m = A2 j m) → (∀ q m, q < 12 → m < ln (338 + q) → R3 (338 + q) m = R2 (366 + q) m) → (∀ j m, j ≠ 365 → j ≠ 363 → (¬ (338 ≤ j ∧ j < 350) ∧ ¬ (366 ≤ j ∧ j < 378)) ∨ ln j ≤ m → R3 j m = R2 j m) → Q6 A3 (up2 (up2 (up2 (up2 J2 318 61 w) 318 29 (R2 365 0)) 318 30 (R2 365 1)) 318 31 (R2 365 2)) R3 → Q9 R3 → Fo R R3 → Rel (n + 1) I2 (up2 G 46 14 (58 + 52 * p)) A3 L2 (up2 (up2 (up2 (up2 J2 318 61 w) 318 29 (R2 365 0)) 318 30 (R2 365 1)) 318 31 (R2 365 2)) R3 := fun A3 R3 w hA3 hq hj h6 h93 hfo => by
        refine Rel_S h hI2 hG2 (fun j m q1 q2 => by rw [hA3 j m q1]; exact hA2 j m q1 q2) hL2 (fun k q => ?_) (fun j m q1 q2 => ?_) h6 h93
        · by_cases k29 : k = 29
          · subst k29
            rw [up2_n (by omega), up2_n (by omega), up2_s, hR2 _ _ (by omega) (by omega), b1]; exact e 29 (by decide)
          · by_cases k30 : k = 30
            · subst k30
              rw [up2_n (by omega), up2_s, hR2 _ _ (by omega) (by omega), b2]; exact e 30 (by decide)
            · by_cases k31 : k = 31
              · subst k31
                rw [up2_s, hR2 _ _ (by omega) (by omega), b3]; exact e 31 (by decide)
              · rw [up2_n (by omega), up2_n (by omega), up2_n (by omega), up2_n (by omega)]
                exact hJ2 k (by omega)
        · rcases Nat.lt_or_ge m (ln j) with hm | hm
          · by_cases hj2 : 338 ≤ j ∧ j < 350
            · obtain ⟨q, rfl⟩ : ∃ q, j = 338 + q := ⟨j - 338, by omega⟩
              rw [hq q m (by omega) hm, hR2 _ _ (by omega) (by omega)]
              exact (b4 q m (by omega) hm).2
            · rw [hj j m (by omega) (by omega) (Or.inl (by omega)), hR2 _ _ (by omega) (by omega)]
              exact b5 j m (by omega) (Or.inl (by omega))
          · exact hfo j m q1 hm
      have z0 : nI (s - 0) = nI s := rfl
      rcases hcase with ⟨f1, f2⟩ | ⟨n0, x, f0, fd, f1, f2⟩ | ⟨f1, f2⟩
      · obtain ⟨R3, g1, g2, g3⟩ := kD_n (a1 := nI p) (x := -9) (J := J2) h92
        refine ⟨-1000000, I2, _, A2, L2, _, R3, hcls _ f1, href _ (f2.trans g1), fun k1 k2 => hfin A2 R3 (-9) (fun _ _ _ => rfl) g2 (fun j m q1 _ q3 => g3 j m q1 q3) (Or.inl ⟨?_, hA19⟩) k1 k2⟩
        rw [up2_n (by omega), up2_n (by omega), up2_n (by omega), up2_s]
      · have hX2 := hS2.2.2.2.1
        have hnn := (tt_nn hT hX2).2
        have hl : lT 46 = 1501 := rfl
        have hl19 : ln 19 = 6 := i19.2.2
        obtain ⟨hns, _⟩ := hX2.2.2.2.2.2 n0 f0
        have hfl := fi_mem (A := A2) (T := 46) (kn := kn) (n := n0) (by have := hX2.1; omega)
        have hkl := hX2.2.2.2.1
        obtain ⟨c, ec⟩ : ∃ c, c = fi A2 46 kn n0 := ⟨_, rfl⟩
        rw [← ec] at hns hfl f1
        have hcl : c < lT 46 := by omega
        have h48 : A2 (46 + 2) c = nI nv := by rw [hns.2.2.1, fd]
        have ecl : (nI c).toNatClampNeg = c := t_cl (by omega)
        have zcl : (0 : Int32).toNatClampNeg = 0 := rfl
        have env : (nI nv).toNatClampNeg = nv := t_cl (by omega)
        obtain ⟨R3, g1, g0, g2, g3⟩ := kD_f (x := x) (J := J2) (p := p) (n0 := n0) h92 hp5 (by omega)
        have hpre : pre_X5_copyValues A2 L2 46 (nI c) 19 0 := by
          unfold pre_X5_copyValues
          rw [ecl, h48, env, zcl, hl19]
          exact ⟨hT, hcl, rfl, i19, by omega, by omega, by decide, by decide, rfl, rfl⟩
        have hcv : f_X5_copyValues A2 L2 46 (nI c) 19 0 = some (cpy A2 19 0 nv (L2 47 c)) := by
          unfold f_X5_copyValues gd
          rw [if_pos hpre, ecl, h48, env, zcl]
        have hk : kB (up2 G 46 14 (58 + 52 * p)) (nI c) I2 A2 L2 = some (R2 341 n0, I2, up2 G 46 14 (58 + 52 * p), cpy A2 19 0 nv (L2 47 c), L2) := by
          unfold kB
          rw [hcv, Option.bind_some, t_bound hT hcl hns, Option.bind_some]
        refine ⟨_, I2, _, _, L2, _, R3, hcls _ (f1.trans hk), href _ (f2.trans g1), fun k1 k2 => hfin _ R3 (R2 319 p) (fun j m q => ?_) g2 g3 (Or.inr ⟨nv, hnv, ?_, fun i hi => ?_, fun i h1 h2 => ?_⟩) k1 k2⟩
        · unfold cpy
          rw [if_neg (fun r => q r.1)]
        · rw [up2_n (by omega), up2_n (by omega), up2_n (by omega), up2_s]
          exact hS2.2.1.2.2.2.1
        · rw [g0 i (by omega)]
          unfold cpy
          rw [if_pos ⟨rfl, by omega, by omega⟩, Nat.sub_zero]
          have hlc : L2 47 c = plc (R2 341 n0) (lN (e8 (wn R2 n0) (dn R2 n0))) := hns.2.2.2.2.2.1
          rw [hlc, vlo_e8 _ (ns_6 hns) (by omega) (by omega), (hns.2.2.2.1 i (by omega)).1]
        · unfold cpy
          rw [if_neg (fun r => by omega)]
          exact hA19 i h2
      · obtain ⟨R3, g1, g2, g3⟩ := kD_n (a1 := nI p) (x := enc (-9) (nxw R2 nn2)) (J := J2) h92
        have hk : kC (up2 G 46 14 (58 + 52 * p)) I2 A2 L2 = some ((if enc (-9) (nxw R2 nn2) = -9 then -1000000 else -1000001), I2, up2 G 46 14 (58 + 52 * p), A2, L2) := by
          unfold kC
          rw [(t_nxw hS2.2.2.2.1 hT).1, Option.bind_some]
          cases hx : nxw R2 nn2 with
          | none =>
            rw [if_pos (show enc (-1) (Option.map (fi A2 46 kn) none) = -1 from rfl), if_pos (show enc (-9) none = -9 from rfl)]
          | some m =>
            have hm := (nxw_o hx).1
            have hnn := tt_nn hT hS2.2.2.2.1
            have hfl := fi_mem (A := A2) (T := 46) (kn := kn) (n := m) (by have := hS2.2.2.2.1.1; omega)
            have hkl := hS2.2.2.2.1.2.2.2.1
            have hl : lT 46 = 1501 := rfl
            rw [if_neg (show ¬ enc (-1) (Option.map (fi A2 46 kn) (some m)) = -1 from t_m1 (n := fi A2 46 kn m) (by omega)), if_neg (show ¬ enc (-9) (some m) = -9 from t_m9 (n := m) (by omega))]
        refine ⟨_, I2, _, A2, L2, _, R3, hcls _ (f1.trans hk), href _ (f2.trans g1), fun k1 k2 => hfin A2 R3 (-9) (fun _ _ _ => rfl) g2 (fun j m q1 _ q3 => g3 j m q1 q3) (Or.inl ⟨?_, hA19⟩) k1 k2⟩
        rw [up2_n (by omega), up2_n (by omega), up2_n (by omega), up2_s]
    · rw [if_neg (show ¬ (¬ a2 < 0 ∧ ¬ 60 < a2) from hc), if_pos rfl, if_pos rfl]
      exact ⟨_, _, _, _, _, _, _, rfl, rfl, fun _ _ => hr⟩
  · rw [e1, e2]
    exact ⟨_, _, _, _, _, _, _, rfl, rfl, fun _ _ => hr⟩
theorem k_second (a1 a2 : Int32) (h : Rel n I G A L J R) : ∃ r I' G' A' L' J' R', f_X6_second I G A L a1 a2 = some (r, I', G', A', L') ∧ f_X7_second J R a1 a2 = some (r, J', R') ∧ Rel (n + 1) I' G' A' L' J' R' := by
  obtain ⟨r, I', G', A', L', J', R', e1, e2, e3⟩ := k_second0 a1 a2 h
  exact ⟨r, I', G', A', L', J', R', e1, e2, e3 ((qb_X7_second J R a1 a2 r J' R' e2).2 (Rel_9 h)) (qo_X7_second J R a1 a2 r J' R' e2).2⟩
end SO

/-! part 9c.same -/
/-! THE TIE: same: a whole solving (the reference's memory is a phantom) -/
section SP
variable {G : Nat → Nat → Nat} {T E p B nv nr z sc : Nat}
theorem t_same_L {v9 a1 a2 : Int32} {k42 : Int32 → (Nat → Nat → Int32) → (Nat → Nat → Int32) → (Nat → Nat → Int64) → Option (Int32 × (Nat → Nat → Int32) × (Nat → Nat → Nat) × (Nat → Nat → Int32) × (Nat → Nat → Int64))} : ∀ (k i fu tn hb kn nn dd tk : Nat) (fb : Nat → Option (Nat × Nat)) (I A : Nat → Nat → Int32) (L : Nat → Nat → Int64) (J R : Nat → Nat → Int32), i + k = 1000000 → k + 1 < fu → tn + k < 1073741824 → hb + k < 1073741824 → tk < 250 → TSv I G A L J R T E p B nv nr kn nn dd tk tn hb z sc fb → ∃ r I' A' L' J' R' kn' nn' dd' tk' tn' hb' fb', f_X6_same_L80 v9 a1 a2 G k42 fu (nI i) 0 I A L = k42 r I' A' L' ∧ TSv I' G A' L' J' R' T E p B nv nr kn' nn' dd' tk' tn' hb' z sc fb' ∧ XT T E I A L J R I' A' L' J' R' ∧ tk' ≤ 250 := by
  intro k
  induction k with
  | zero =>
    intro i fu tn hb kn nn dd tk fb I A L J R hi hf h1 h2 h3 hS
    obtain ⟨fu, rfl⟩ : ∃ z, fu = z + 1 := ⟨fu - 1, by omega⟩
    refine ⟨0, I, A, L, J, R, kn, nn, dd, tk, tn, hb, fb, ?_, hS, XT_rf, by omega⟩
    rw [f_X6_same_L80, if_neg (show ¬ nI i < 1000000 from nI_nlt (b := 1000000) (by omega) (by omega))]
  | succ k ih =>
    intro i fu tn hb kn nn dd tk fb I A L J R hi hf h1 h2 h3 hS
    obtain ⟨fu, rfl⟩ : ∃ z, fu = z + 1 := ⟨fu - 1, by omega⟩
    obtain ⟨r, I1, A1, L1, J1, R1, J2, R2, kn1, nn1, dd1, tk1, fb1, q1, q2, q3, q4, q5, q6, q7⟩ := t_turn hS h3 (by omega) (by omega)
    have hcl : f_X6_same_L80 v9 a1 a2 G k42 (fu + 1) (nI i) 0 I A L = f_X6_same_L80 v9 a1 a2 G k42 fu (nI (i + 1)) r I1 A1 L1 := by
      rw [f_X6_same_L80, if_pos (show nI i < 1000000 from nI_lt (b := 1000000) (by omega) (by omega)), if_pos rfl, q1, Option.bind_some, nI_1]
    by_cases h0 : r = 0
    · subst h0
      have ht1 : tk1 < 250 := by
        rcases q6 with ⟨_, q, _⟩ | ⟨q, _⟩ | ⟨q, _⟩ | q | q
        · exact q
        all_goals exact absurd q (by decide)
      obtain ⟨r, I', A', L', J', R', kn', nn', dd', tk', tn', hb', fb', p1, p3, p4, p5⟩ := ih (i + 1) fu (tn + 1) (hb + 1) kn1 nn1 dd1 tk1 fb1 I1 A1 L1 J1 R1 (by omega) (by omega) (by omega) (by omega) ht1 q4
      exact ⟨r, I', A', L', J', R', kn', nn', dd', tk', tn', hb', fb', hcl.trans p1, p3, XT_tr q5 p4, p5⟩
    · refine ⟨r, I1, A1, L1, J1, R1, kn1, nn1, dd1, tk1, tn + 1, hb + 1, fb1, ?_, q4, q5, q4.2.2.2.2.2.2.2.2.2.2.2.2⟩
      obtain ⟨fu, rfl⟩ : ∃ z, fu = z + 1 := ⟨fu - 1, by omega⟩
      rw [hcl, f_X6_same_L80]
      by_cases q : nI (i + 1) < 1000000
      · rw [if_pos q, if_neg h0]
      · rw [if_neg q]
end SP

/-! part 9d.same2 -/
/-! THE TIE: same (laid by gen9d.py) -/
section SQ
variable {I A : Nat → Nat → Int32} {G : Nat → Nat → Nat} {L : Nat → Nat → Int64} {J R I' A' J' R' : Nat → Nat → Int32} {G' : Nat → Nat → Nat} {L' : Nat → Nat → Int64} {n p nv nr T z : Nat}
/-- what same() may change -/
def XL (T : Nat) (I : Nat → Nat → Int32) (G : Nat → Nat → Nat) (A : Nat → Nat → Int32) (L : Nat → Nat → Int64) (I' : Nat → Nat → Int32) (G' : Nat → Nat → Nat) (A' : Nat → Nat → Int32) (L' : Nat → Nat → Int64) : Prop := (∀ j k, ¬ (j = T ∨ j = T + 11 ∨ j = 14 ∨ (j = 8 ∧ k = 0)) → I' j k = I j k) ∧ (∀ j k, ¬ (j = T ∨ j = 14) → G' j k = G j k) ∧ G' 14 0 = T ∧ (∀ j m, ¬ ((9 ≤ j ∧ j ≤ 13) ∨ j = 15 ∨ j = 16 ∨ j = 20 ∨ j = 21 ∨ (T + 2 ≤ j ∧ j ≤ T + 10)) → A' j m = A j m) ∧ (∀ j m, j ≠ T + 1 → L' j m = L j m)
theorem XL_tr {I1 A1 I2 A2 : Nat → Nat → Int32} {G1 G2 : Nat → Nat → Nat} {L1 L2 : Nat → Nat → Int64} (a : XL T I G A L I1 G1 A1 L1) (b : XL T I1 G1 A1 L1 I2 G2 A2 L2) : XL T I G A L I2 G2 A2 L2 := ⟨fun j k q => (b.1 j k q).trans (a.1 j k q), fun j k q => (b.2.1 j k q).trans (a.2.1 j k q), b.2.2.1, fun j k q => (b.2.2.2.1 j k q).trans (a.2.2.2.1 j k q), fun j k q => (b.2.2.2.2 j k q).trans (a.2.2.2.2 j k q)⟩
theorem Rel_XL (h : Rel n I G A L J R) (hw : I 0 5 = -9) (hGT : G 14 0 = T) (x : XL T I G A L I' G' A' L') : Rel (n + 1) I' G' A' L' (up2 J 318 0 0) R := by
  have hw2 : J 318 23 = -9 := (Rel_u h).symm.trans hw
  have hJ : ∀ k, ¬ (k = 0) → up2 J 318 0 0 318 k = J 318 k := fun k q => up0 q
  have hR : ∀ (j m : Nat), ¬ (j = 0 ∧ False) → R j m = R j m := fun _ _ _ => rfl
  obtain ⟨hI, hG, g14, hA, hL⟩ := x
  obtain ⟨np, z, sc, q1, q2, q3, q4, q5c, q5, q6, q7, ⟨b1, T1, b2, b3, b4⟩, q9⟩ := h
  obtain rfl : T1 = T := b2.symm.trans hGT
  exact ⟨np, z, sc, Q1_of q1 (hI _ _ (by omega)) (hJ _ (by omega)) (fun j k h1 h2 h3 => hI j k (by omega)) (fun j k h1 h2 h3 => hA j k (by omega)) (fun j k h1 h2 => hR j k (by omega)), Q2_of q2 (fun k => hI _ _ (by omega)) (hJ _ (by omega)) (hJ _ (by omega)) (fun j m h1 h2 => hA j m (by omega)) (fun j m h1 h2 => hR j m (by omega)), Q3_of q3 (fun p hp => hI _ _ (by omega)) (fun p m hp => hA _ _ (by omega)) (fun j m h1 h2 => hR j m (by omega)), Q4_of q4 (hG _ _ (by omega)) (fun T2 h => hG _ _ (by omega)) (fun T2 h => hI _ _ (by omega)) (hJ _ (by omega)) (fun T2 j m h1 h2 h3 => hA j m (by omega)) (fun T2 m h => hL _ _ (by omega)) (fun j m h1 h2 => hR j m (by omega)) (fun B nv hB e1 e2 => ⟨nv, Nat.le_refl _, e2, by rw [hI _ _ (by have := pr_ge hB; omega)]; exact e1, fun m _ => hA _ _ (by have := pr_ge hB; omega)⟩), Q5c_of q5c (by omega) (hJ _ (by omega)) (fun p hp => hI _ _ (by omega)) (fun m => hR _ _ (by omega)), Q5_of q5 (fun k _ _ => hI _ _ (by omega)) (fun k _ _ => hJ k (by omega)) (fun p k hp _ _ => hI _ _ (by omega)) (fun m => hA _ _ (by omega)) (fun p m hp => hA _ _ (by omega)) (fun m => hR _ _ (by omega)) (fun m => hR _ _ (by omega)) (Qn_of (hJ _ (by omega))), Q6_of q6 (hJ _ (by omega)) (fun m => hA _ _ (by omega)) (fun m => hR _ _ (by omega)), ⟨by rw [hI _ _ (by omega), hJ _ (by omega)]; exact q7.1, by rw [hI _ _ (by omega)]; exact q7.2⟩, ⟨by rw [hI _ _ (by omega), hJ _ (by omega)]; exact b1, T1, g14, by rw [hG _ _ (by omega)]; exact b3, Or.inl ⟨by rw [hI _ _ (by omega)]; exact hw, by rw [hJ _ (by omega)]; exact hw2⟩⟩, (fun j x h => by rw [hR j x (by omega)]; exact q9 j x h)⟩
theorem t_become {A27 : Nat → Nat → Int32} (e : fil A 9 5 0 = A27) : f_X4_become I A 8 (nI z) = some (up2 I 8 0 (nI z), A27) := by
  unfold f_X4_become
  rw [gd_t (show 8 < 318 ∧ kd 8 = 4 by decide)]
  simp only [bd]
  rw [t_fill (j := 8 + 1) (n := 5) ⟨by decide, by decide, by decide⟩ (by omega) (by omega), Option.bind_some, e]
theorem xl_ne {j T : Nat} (q : ¬ ((9 ≤ j ∧ j ≤ 13) ∨ j = 15 ∨ j = 16 ∨ j = 20 ∨ j = 21 ∨ (T + 2 ≤ j ∧ j ≤ T + 10))) : j ≠ 9 ∧ j ≠ 8 + 3 ∧ j ≠ 8 + 4 ∧ j ≠ 8 + 5 ∧ j ≠ 15 ∧ j ≠ 16 ∧ j ≠ 20 ∧ j ≠ 21 ∧ (j < T + 2 ∨ T + 10 < j) := by omega
theorem t_same_1 {v9 a1 a2 : Int32} (hTT : T = 22 ∨ T = 34) (hGT : G 14 0 = T) (hP : TPr I A R p (58 + 52 * p) nv nr) (h8 : I 8 1 = 0) (hz1 : 1 ≤ z) (hz5 : z ≤ 5) : ∃ A27 r30 I31 G32 A33 L34, f_X4_become I A 8 (nI z) = some (up2 I 8 0 (nI z), A27) ∧ f_X3_begin (up2 I 8 0 (nI z)) G A27 L (58 + 52 * p) 8 (up2 I 8 0 (nI z) 0 3) = some (r30, I31, G32, A33, L34) ∧ ∀ k42, ∃ v43 I44 A45 L46, f_X6_same_L80 v9 a1 a2 G32 k42 FU 0 r30 I31 A33 L34 = k42 v43 I44 A45 L46 ∧ ∀ s, s = 20 ∨ s = 21 → ∃ A50, f_X3_sumUp I44 G32 A45 L46 v43 s = some A50 ∧ XL T I G A L I44 G32 A50 L46 := by
  have hp := hP.1
  obtain ⟨A27, eA⟩ : ∃ w, fil A 9 5 0 = w := ⟨_, rfl⟩
  have o27 : ∀ j m, j ≠ 9 → A27 j m = A j m := fun j m q => by rw [← eA, fil_j q]
  have z27 : ∀ m, m < 5 → A27 9 m = 0 := fun m hm => by rw [← eA]; unfold fil; rw [if_pos ⟨rfl, hm⟩]
  have oI : ∀ j k, ¬ (j = 8 ∧ k = 0) → up2 I 8 0 (nI z) j k = I j k := fun j k q => by unfold up2; rw [if_neg q]
  obtain ⟨J0, eJ⟩ : ∃ w : Nat → Nat → Int32, w = fun _ k => if k = 15 then nI z else if k = 24 then I 0 3 else 0 := ⟨_, rfl⟩
  obtain ⟨R0, eR⟩ : ∃ w : Nat → Nat → Int32, w = fun j m => if j = 332 then A27 12 m else if j = 333 then A27 13 m else if j = 337 then -9 else if 330 ≤ j ∧ j ≤ 336 then 0 else R j m := ⟨_, rfl⟩
  have hP0 : TPr (up2 I 8 0 (nI z)) A27 R0 p (58 + 52 * p) nv nr := TPr_of2 hP (fun j k _ _ _ => oI j k (by omega)) (fun j k _ _ _ => o27 j k (by omega)) (fun j k q1 q2 => by rw [eR]; show (if j = 332 then _ else _) = _; rw [if_neg (by omega), if_neg (by omega), if_neg (by omega), if_neg (by omega)])
  have hTe : TTe (up2 I 8 0 (nI z)) A27 J0 R0 8 z 0 := ⟨up2_s _ _ _ _, by rw [eJ]; rfl, hz1, hz5, by rw [oI _ _ (by omega)]; exact h8, by rw [eJ]; rfl, by omega, fun i hi => absurd hi (by omega)⟩
  obtain ⟨r, I1, G1, A1, L1, J1, R1, nn, fb, b1, b2, b3, b4, b5, b6, b7, b8, b9, b10, b11⟩ := t_begin (L := L) (w := up2 I 8 0 (nI z) 0 3) hTT hGT (Or.inr rfl) hP0 hTe (fun h hh => ⟨⟨0, by omega, z27 h hh, by rw [eR]; rfl⟩, by rw [eR]; rfl, by rw [eR]; rfl, by rw [eR]; rfl, by rw [eR]; rfl, by rw [eR]; rfl⟩) (by rw [eJ, oI _ _ (by omega)]; rfl) (by rw [eJ]; rfl)
  refine ⟨A27, r, I1, G1, A1, L1, t_become eA, b1, fun k42 => ?_⟩
  have hL : ∃ v43 I44 A45 L46 J' R' kn' nn' dd' tk' tn' hb' fb', f_X6_same_L80 v9 a1 a2 G1 k42 FU 0 r I1 A1 L1 = k42 v43 I44 A45 L46 ∧ TSv I44 G1 A45 L46 J' R' T 8 p (58 + 52 * p) nv nr kn' nn' dd' tk' tn' hb' z 0 fb' ∧ XT T 8 I1 A1 L1 J1 R1 I44 A45 L46 J' R' ∧ tk' ≤ 250 := by
    rcases b4 with ⟨_, rfl⟩ | ⟨_, rfl⟩
    · refine ⟨2, I1, A1, L1, J1, R1, _, _, _, _, _, _, _, ?_, b3, XT_rf, by omega⟩
      obtain ⟨fu, hfu⟩ : ∃ y, FU = y + 1 := ⟨FU - 1, by have := FU_le; omega⟩
      rw [hfu, f_X6_same_L80, if_pos (show (0 : Int32) < 1000000 by decide), if_neg (by decide)]
    · exact t_same_L 1000000 0 FU 0 0 1 nn 0 0 fb I1 A1 L1 J1 R1 (by omega) (by have := FU_le; omega) (by omega) (by omega) (by omega) b3
  obtain ⟨v, I2, A2, L2, J2, R2, kn, nn2, dd, tk, tn, hb, fb2, c1, c2, ⟨x1, x2, x3, x4, x5, x6⟩, c4⟩ := hL
  refine ⟨v, I2, A2, L2, c1, fun s hs => ?_⟩
  obtain ⟨A3, d1, d2, _⟩ := t_sumUp (r := v) (s2 := s) c2.1 c2.2.2.1 (by rcases hs with rfl | rfl <;> exact ⟨by decide, by decide +kernel, by decide +kernel⟩) (by omega) (by omega) c4
  refine ⟨A3, d1, fun j k q => ?_, fun j k q => b6 j k (by omega) (by omega), c2.2.2.1, fun j m q => ?_, fun j m q => ?_⟩
  · rw [x1 j k (by omega) (by omega) (by omega), b7 j k (by omega) (by omega) (by omega), oI j k (by omega)]
  · obtain ⟨w1, w2, w3, w4, w5, w6, w7, w8, w9⟩ := xl_ne q
    rw [d2 j m (by rcases hs with rfl | rfl; exact w7; exact w8), x3 j m w5 w6 w2 w3 w4 w9, b8 j m w5 w6 w2 w9, o27 j m w1]
  · rw [x4 j m q, b9 j m q]
theorem t_iso : ∀ (k i fu : Nat) (v : Int32), i + k = 12 → k < fu → (v = 0 ∨ v = 1) → ∃ r, f_X6_isSameOutcome_L4 A (fun v5 => gd (v5 = 0 ∨ v5 = 1) <| some v5) fu (nI i) v = some r := by
  intro k
  induction k with
  | zero =>
    intro i fu v hi hf hv
    obtain ⟨fu, rfl⟩ : ∃ z, fu = z + 1 := ⟨fu - 1, by omega⟩
    refine ⟨v, ?_⟩
    rw [f_X6_isSameOutcome_L4, if_neg (show ¬ nI i < 12 from nI_nlt (b := 12) (by omega) (by omega)), gd_t hv]
  | succ k ih =>
    intro i fu v hi hf hv
    obtain ⟨fu, rfl⟩ : ∃ z, fu = z + 1 := ⟨fu - 1, by omega⟩
    have go : ∀ w, (w = 0 ∨ w = 1) → ∃ r, f_X6_isSameOutcome_L4 A (fun v5 => gd (v5 = 0 ∨ v5 = 1) <| some v5) fu (nI i + 1) w = some r := fun w hw => by rw [nI_1]; exact ih (i + 1) fu w (by omega) (by omega) hw
    have st : ∀ z9 : Int32, ∃ r, (if v = 0 then (f_X6_isSameOutcome_L4 A (fun v5 => gd (v5 = 0 ∨ v5 = 1) <| some v5) fu (nI i + 1) 0) else (if z9 = 0 then (gd (inr (nI i) 12) <| if (A 20 (nI i).toNatClampNeg) = (A 21 (nI i).toNatClampNeg) then (f_X6_isSameOutcome_L4 A (fun v5 => gd (v5 = 0 ∨ v5 = 1) <| some v5) fu (nI i + 1) 1) else (f_X6_isSameOutcome_L4 A (fun v5 => gd (v5 = 0 ∨ v5 = 1) <| some v5) fu (nI i + 1) 0)) else (f_X6_isSameOutcome_L4 A (fun v5 => gd (v5 = 0 ∨ v5 = 1) <| some v5) fu (nI i + 1) 1))) = some r := fun z9 => by
      rw [gd_in (show i < 12 by omega) (by omega)]
      split
      · exact go 0 (Or.inl rfl)
      · split
        · split
          · exact go 1 (Or.inr rfl)
          · exact go 0 (Or.inl rfl)
        · exact go 1 (Or.inr rfl)
    rw [f_X6_isSameOutcome_L4, if_pos (show nI i < 12 from nI_lt (b := 12) (by omega) (by omega))]
    simp only [bd]
    split
    · exact st 1
    · split
      · exact st 1
      · exact st 0
/-- the end of same() -/
noncomputable def kZ : (Nat → Nat → Int32) → (Nat → Nat → Nat) → (Nat → Nat → Int32) → (Nat → Nat → Int64) → Option (Int32 × (Nat → Nat → Int32) × (Nat → Nat → Nat) × (Nat → Nat → Int32) × (Nat → Nat → Int64)) := fun I15 G16 A17 L18 => Option.bind (f_X6_isSameOutcome A17) fun r19 => Option.bind (f_X6_asNumber r19) fun r21 => some (r21, I15, G16, A17, L18)
theorem kZ_s : ∃ r, kZ I G A L = some (r, I, G, A, L) := by
  obtain ⟨r, e⟩ := t_iso (A := A) 12 0 FU 1 (by omega) (by have := FU_le; omega) (Or.inr rfl)
  have e1 : f_X6_isSameOutcome A = some r := e
  refine ⟨if r = 0 then 0 else 1, ?_⟩
  unfold kZ f_X6_asNumber
  rw [e1, Option.bind_some]
  split <;> rfl
theorem t_same_L33 {a2 : Int32} (hTT : T = 22 ∨ T = 34) (hGT : G 14 0 = T) (hP : TPr I A R p (58 + 52 * p) nv nr) (h8 : I 8 1 = 0) (hz1 : 1 ≤ z) (hz5 : z ≤ 5) (ha : a2 = nI z) : ∃ I' G' A' L', f_X6_same_L33 (nI p) a2 kZ FU 0 I G A L = kZ I' G' A' L' ∧ XL T I G A L I' G' A' L' := by
  have hp := hP.1
  obtain ⟨fu, hfu⟩ : ∃ y, FU = y + 1 + 1 + 1 := ⟨FU - 3, by have := FU_le; omega⟩
  obtain ⟨A27, r30, I31, G32, A33, L34, e1, e2, e3⟩ := t_same_1 (L := L) (z := 1) (v9 := 0) (a1 := nI p) (a2 := a2) hTT hGT hP h8 (by omega) (by omega)
  obtain ⟨v43, I44, A45, L46, e4, e5⟩ := e3 (fun v43 I44 A45 L46 => Option.bind (f_X3_sumUp I44 G32 A45 L46 v43 20) fun A50 => f_X6_same_L33 (nI p) a2 kZ (fu + 1 + 1) (0 + 1) I44 G32 A50 L46)
  obtain ⟨A50, e6, x⟩ := e5 20 (Or.inl rfl)
  have hP2 : TPr I44 A50 R p (58 + 52 * p) nv nr := TPr_of2 hP (fun j k _ _ _ => x.1 j k (by omega)) (fun j k _ _ _ => x.2.2.2.1 j k (by omega)) (fun _ _ _ _ => rfl)
  obtain ⟨B27, r31, I32, G33, A34, L35, f1, f2, f3⟩ := t_same_1 (L := L46) (z := z) (v9 := 1) (a1 := nI p) (a2 := a2) hTT x.2.2.1 hP2 ((x.1 8 1 (by omega)).trans h8) hz1 hz5
  obtain ⟨v44, I45, A46, L47, f4, f5⟩ := f3 (fun v43 I44 A45 L46 => Option.bind (f_X3_sumUp I44 G33 A45 L46 v43 21) fun A48 => f_X6_same_L33 (nI p) a2 kZ (fu + 1) (1 + 1) I44 G33 A48 L46)
  obtain ⟨A51, f6, y⟩ := f5 21 (Or.inr rfl)
  refine ⟨I45, G33, A51, L47, ?_, XL_tr x y⟩
  rw [← ha] at f1 f2
  have g1 : f_X6_same_L33 (nI p) a2 kZ (fu + 1 + 1 + 1) 0 I G A L = f_X6_same_L33 (nI p) a2 kZ (fu + 1 + 1) (0 + 1) I44 G32 A50 L46 := by
    rw [f_X6_same_L33, if_pos (show (0 : Int32) < 2 by decide)]
    simp only [bd, if_true]
    rw [show f_X4_become I A 8 1 = _ from e1, Option.bind_some]
    show (gd (inr (nI p) 5) <| _) = _
    rw [gd_in (show p < 5 by omega) (by omega), t_cl (show p < 2147483648 by omega), e2, Option.bind_some]
    refine e4.trans ?_
    show Option.bind (f_X3_sumUp I44 G32 A45 L46 v43 20) _ = _
    rw [e6, Option.bind_some]
  have g2 : f_X6_same_L33 (nI p) a2 kZ (fu + 1 + 1) (0 + 1) I44 G32 A50 L46 = f_X6_same_L33 (nI p) a2 kZ (fu + 1) (1 + 1) I45 G33 A51 L47 := by
    rw [show (0 + 1 : Int32) = 1 by decide, f_X6_same_L33, if_pos (show (1 : Int32) < 2 by decide)]
    simp only [bd, show ¬ (1 : Int32) = 0 by decide, if_false]
    rw [f1, Option.bind_some]
    show (gd (inr (nI p) 5) <| _) = _
    rw [gd_in (show p < 5 by omega) (by omega), t_cl (show p < 2147483648 by omega), f2, Option.bind_some]
    refine f4.trans ?_
    show Option.bind (f_X3_sumUp I45 G33 A46 L47 v44 21) _ = _
    rw [f6, Option.bind_some]
  rw [hfu, g1, g2, f_X6_same_L33, if_neg (by decide)]
theorem k_same (a1 a2 : Int32) (h : Rel n I G A L J R) : ∃ r r' I' G' A' L' J', f_X6_same I G A L a1 a2 = some (r, I', G', A', L') ∧ f_X7_same J a1 a2 = some (r', J') ∧ (a1 = a1) ∧ Rel (n + 1) I' G' A' L' J' R := by
  have hr := Rel_J0 h
  have hu := Rel_u h
  obtain ⟨np, z, sc, ⟨p1, p2, p3, p4⟩, q2, q3, q4, q5c, q5, q6, q7, ⟨b1, T, b2, b3, b4⟩, q9⟩ := id h
  have e : ∀ k, k ≠ 0 → up2 J 318 0 0 318 k = J 318 k := fun k q => up0 q
  unfold f_X6_same f_X7_same
  simp only [bd, (t_wi a2 1 5).1, (t_wi a2 1 5).2, Option.bind_some]
  rw [e 23 (by decide), ← hu]
  rcases t_isP (a := a1) (I := I) (J := up2 J 318 0 0) p2 ((e 2 (by decide)).trans p3) p1 with ⟨p, hp, rfl, e1, e2⟩ | ⟨e1, e2⟩
  · rw [e1, e2, Option.bind_some, Option.bind_some, if_neg z10, if_neg z10]
    by_cases hc : ¬ a2 < 1 ∧ ¬ 5 < a2
    · rw [if_pos hc, if_neg z10, if_neg z10]
      by_cases hw : I 0 5 = -9
      · rw [if_pos hw, if_pos hw]
        have hx : ∃ x, 1 ≤ x ∧ x ≤ 5 ∧ a2 = nI x := by
          obtain ⟨x, h1, h2⟩ := nI_of2 (M := 5) (n := 5) (by decide) (fun q => hc.1 (Int32.lt_trans q (by decide))) (Int32.not_lt.mp hc.2)
          refine ⟨x, ?_, h1, h2⟩
          rcases Nat.eq_zero_or_pos x with r | r
          · exfalso; rw [h2, r] at hc; exact hc.1 (by decide)
          · exact r
        obtain ⟨x, x1, x5, hx⟩ := hx
        obtain ⟨⟨nv, nr, hP⟩, _⟩ := p4 p (by omega)
        obtain ⟨I', G', A', L', d1, d2⟩ := t_same_L33 (L := L) (T := T) (by omega) b2 hP q7.2 x1 x5 hx
        obtain ⟨r, d3⟩ := kZ_s (I := I') (G := G') (A := A') (L := L')
        exact ⟨r, 1, I', G', A', L', _, d1.trans d3, rfl, trivial, Rel_XL h hw b2 d2⟩
      · rw [if_neg hw, if_neg hw]
        exact ⟨-2, -2, I, G, A, L, _, rfl, rfl, trivial, hr⟩
    · rw [if_neg hc, if_pos rfl, if_pos rfl]
      exact ⟨-1, -1, I, G, A, L, _, rfl, rfl, trivial, hr⟩
  · rw [e1, e2, Option.bind_some, Option.bind_some, if_pos rfl, if_pos rfl]
    exact ⟨-1, -1, I, G, A, L, _, rfl, rfl, trivial, hr⟩
end SQ

/-! part 9x.glue2 -/
/-! THE TIE: both sides in one memory, the late calls (laid by gen93.py) -/
section GM
variable {I A : Nat → Nat → Int32} {G : Nat → Nat → Nat} {L : Nat → Nat → Int64} {n : Nat}
theorem g_second (a1 a2 : Int32) (h : Rel n I G A L I A) : ∃ r I1 G1 A1 L1 J2 R2, f_X6_second I G A L a1 a2 = some (r, I1, G1, A1, L1) ∧ f_X7_second I1 A1 a1 a2 = some (r, J2, R2) ∧ Rel (n + 1) J2 G1 R2 L1 J2 R2 := by
  obtain ⟨r, I1, G1, A1, L1, _, _, e1, _⟩ := k_second a1 a2 h 
  have f1 := fr_X6_second I G A L a1 a2 r I1 G1 A1 L1 e1
  obtain ⟨r2, I1b, G1b, A1b, L1b, J2, R2, d1, d2, d3⟩ := k_second a1 a2 (Rel_ref h (f1.1) (f1.2.2.1)) 
  rw [e1] at d1
  cases d1
  have f2 := fr_X7_second I1 A1 a1 a2 r J2 R2 d2
  exact ⟨r, I1, G1, A1, L1, J2, R2, e1, d2, Rel_cls d3 (f2.1) (f2.2)⟩
theorem g_same (a1 a2 : Int32) (h : Rel n I G A L I A) : ∃ r r' I1 G1 A1 L1 J2, f_X6_same I G A L a1 a2 = some (r, I1, G1, A1, L1) ∧ f_X7_same I1 a1 a2 = some (r', J2) ∧ (a1 = a1) ∧ Rel (n + 1) J2 G1 A1 L1 J2 A1 := by
  obtain ⟨r, r', I1, G1, A1, L1, _, e1, _⟩ := k_same a1 a2 h 
  have f1 := fr_X6_same I G A L a1 a2 r I1 G1 A1 L1 e1
  obtain ⟨r2, r'2, I1b, G1b, A1b, L1b, J2, d1, d2, x0, d3⟩ := k_same a1 a2 (Rel_ref h (f1.1) (f1.2.2.1)) 
  rw [e1] at d1
  cases d1
  have f2 := fr_X7_same I1 a1 a2 r'2 J2 d2
  exact ⟨r, r'2, I1, G1, A1, L1, J2, e1, d2, x0, Rel_cls d3 (f2) (Fc_rf)⟩
end GM

/-! part a0.tails -/
/-! WORLDS WITH TAILS: [cells in hand] ++ (ta ++ tb); a constructor's new cells are laid aside into ta -/
theorem app2 {α : Type} {a a' b b' : List α} (h : a = a') (k : b = b') : a ++ b = a' ++ b' := by rw [h, k]
section TL
variable {D : va_G} {cl : List vw_C} {H H1 : Heap} {A A0 : Nat → Prop}
theorem tl_Pm {ws : va_W} : va_P D cl ws H ↔ ∀ q ∈ ws, va_at D cl q H := ⟨fun h q hq => by
  obtain ⟨k, hk⟩ := List.getElem?_of_mem hq
  exact h k q hk, fun h k q hk => h q (List.mem_of_getElem? hk)⟩
theorem tl_P {a b : va_W} (p : a.Perm b) (h : va_P D cl a H) : va_P D cl b H := tl_Pm.mpr fun q hq => tl_Pm.mp h q (p.mem_iff.mpr hq)
theorem tl_Dm {ws : va_W} : va_D A ws ↔ (ws.map Prod.fst).Nodup ∧ ∀ q ∈ ws, A q.1 := by
  constructor
  · intro h
    refine ⟨?_, fun q hq => ?_⟩
    · refine List.pairwise_iff_getElem.mpr fun i j hi hj hij => ?_
      intro e
      rw [List.length_map] at hi hj
      rw [List.getElem_map, List.getElem_map] at e
      have := h.1 i j _ _ (List.getElem?_eq_getElem hi) (List.getElem?_eq_getElem hj) e
      omega
    · obtain ⟨k, hk⟩ := List.getElem?_of_mem hq
      exact h.2 k q hk
  · intro h
    refine ⟨fun i j p q hi hj e => ?_, fun k q hk => h.2 q (List.mem_of_getElem? hk)⟩
    obtain ⟨li, ei⟩ := List.getElem?_eq_some_iff.mp hi
    obtain ⟨lj, ej⟩ := List.getElem?_eq_some_iff.mp hj
    have hp := List.pairwise_iff_getElem.mp h.1
    rcases Nat.lt_trichotomy i j with r | r | r
    · exact absurd (by rw [List.getElem_map, List.getElem_map, ei, ej]; exact e) (hp i j (by rw [List.length_map]; exact li) (by rw [List.length_map]; exact lj) r)
    · exact r
    · exact absurd (by rw [List.getElem_map, List.getElem_map, ei, ej]; exact e.symm) (hp j i (by rw [List.length_map]; exact lj) (by rw [List.length_map]; exact li) r)
theorem tl_D {a b : va_W} (p : a.Perm b) (h : va_D A a) : va_D A b := by
  rw [tl_Dm] at h ⊢
  exact ⟨(p.map Prod.fst).nodup_iff.mp h.1, fun q hq => h.2 q (p.mem_iff.mpr hq)⟩
theorem tl_rot {l t n : va_W} : ((l ++ t) ++ n).Perm ((l ++ n) ++ t) := by
  rw [List.append_assoc, List.append_assoc]
  exact List.Perm.append_left l List.perm_append_comm
theorem tl_park {k x ta tb : va_W} : ((k ++ x) ++ (ta ++ tb)).Perm (k ++ ((ta ++ x) ++ tb)) := by
  rw [List.append_assoc]
  refine List.Perm.append_left k ?_
  rw [← List.append_assoc]
  exact List.Perm.append_right tb List.perm_append_comm
/-- a problem came: its object in hand -/
theorem tl_prob {l x ta tb b : va_W} : ((l ++ (ta ++ tb)) ++ (x ++ b)).Perm ((l ++ x) ++ (ta ++ (tb ++ b))) := by
  have h1 : ((l ++ (ta ++ tb)) ++ (x ++ b)).Perm (((l ++ (ta ++ tb)) ++ x) ++ b) := by rw [List.append_assoc (l ++ (ta ++ tb)) x b]
  refine h1.trans ?_
  have h2 : ((l ++ x) ++ (ta ++ (tb ++ b))) = (((l ++ x) ++ (ta ++ tb)) ++ b) := by simp only [List.append_assoc]
  rw [h2]
  exact List.Perm.append_right b tl_rot
/-- its object goes before its other cells -/
theorem tl_prob2 {l x ta tb b : va_W} : ((l ++ x) ++ (ta ++ (tb ++ b))).Perm (l ++ (ta ++ (tb ++ (x ++ b)))) := by
  have h2 : (l ++ (ta ++ (tb ++ (x ++ b)))) = (((l ++ (ta ++ tb)) ++ x) ++ b) := by simp only [List.append_assoc]
  have h3 : ((l ++ x) ++ (ta ++ (tb ++ b))) = (((l ++ x) ++ (ta ++ tb)) ++ b) := by simp only [List.append_assoc]
  rw [h2, h3]
  exact List.Perm.append_right b tl_rot.symm
theorem tl_nd : ∀ (l : List Nat), va_nd l = true ↔ l.Nodup
  | [] => by simp [va_nd]
  | a :: l => by simp [va_nd, tl_nd l]
theorem tl_rg (l t : va_W) : (List.range' l.length t.length).map (fun i => (l ++ t)[i]?) = t.map some := by
  apply List.ext_getElem?
  intro i
  rw [List.getElem?_map, List.getElem?_map]
  by_cases h : i < t.length
  · rw [List.getElem?_range' h]
    simp [h]
  · rw [List.getElem?_eq_none (by rw [List.length_range']; omega), List.getElem?_eq_none (by omega)]
    rfl
theorem tl_idx {lits tl wr : va_W} {isR : List Nat} (hR : isR.map (fun i => (lits ++ tl)[i]?) = wr.map some) : (isR ++ List.range' lits.length tl.length).map (fun i => (lits ++ tl)[i]?) = (wr ++ tl).map some := by
  rw [List.map_append, List.map_append, hR, tl_rg]
theorem tl_ndR {lits tl : va_W} {isR : List Nat} (hn : va_nd isR = true) (hb : ∀ i ∈ isR, i < lits.length) : va_nd (isR ++ List.range' lits.length tl.length) = true := by
  rw [tl_nd, List.nodup_append]
  refine ⟨(tl_nd _).mp hn, List.nodup_range', fun a ha b hb' => ?_⟩
  have := hb a ha
  rw [List.mem_range'_1] at hb'
  omega
theorem tl_join {lits tl wc wr w1 : va_W} (hP : va_P D cl (lits ++ tl) H) (hD : va_D A0 (lits ++ tl)) (isC isR : List Nat) (hC : isC.map (fun i => (lits ++ tl)[i]?) = wc.map some) (hR : isR.map (fun i => (lits ++ tl)[i]?) = wr.map some) (hn : va_nd isR = true) (hdis : ∀ i ∈ isR, i ∉ isC) (n : Nat) (hlen : lits.length = n) (hbR : ∀ i ∈ isR, i < n) (hbC : ∀ i ∈ isC, i < n)
    (hk : ∀ q : Nat, q < H.size → ¬ va_A wc H.size q → H1[q]? = H[q]?) (hF : ∀ q, va_A wc H.size q → A0 q) (hP1 : va_P D cl w1 H1) (hD1 : va_D (va_A wc H.size) w1) : va_P D cl ((wr ++ tl) ++ w1) H1 ∧ va_D A0 ((wr ++ tl) ++ w1) := by
  refine va_join hP hD isC (isR ++ List.range' lits.length tl.length) hC (tl_idx hR) (tl_ndR hn (fun i hi => by rw [hlen]; exact hbR i hi)) (fun i hi hc => ?_) hk hF hP1 hD1
  rcases List.mem_append.mp hi with h | h
  · exact hdis i h hc
  · have := hbC i hc
    rw [List.mem_range'_1, hlen] at h
    omega
/-- the cells in hand, in another order -/
theorem tl_subP {lits tl wr : va_W} (hP : va_P D cl (lits ++ tl) H) (isR : List Nat) (hR : isR.map (fun i => (lits ++ tl)[i]?) = wr.map some) : va_P D cl (wr ++ tl) H := by
  refine hP.sub (isR ++ List.range' lits.length tl.length) ?_
  have h := tl_idx hR
  have : ∀ (l : List Nat) (w : va_W), l.map (fun i => (lits ++ tl)[i]?) = w.map some → l.filterMap (fun i => (lits ++ tl)[i]?) = w := by
    intro l
    induction l with
    | nil => intro w h; cases w with
      | nil => rfl
      | cons a b => simp at h
    | cons x l ih => intro w h; cases w with
      | nil => simp at h
      | cons a b =>
        rw [List.map_cons, List.map_cons] at h
        obtain ⟨h1, h2⟩ := List.cons.inj h
        rw [List.filterMap_cons, h1]
        show a :: _ = _
        rw [ih b h2]
  exact this _ _ h
theorem tl_subD {lits tl wr : va_W} (hD : va_D A (lits ++ tl)) (isR : List Nat) (hn : va_nd isR = true) (n : Nat) (hlen : lits.length = n) (hb : ∀ i ∈ isR, i < n) (hR : isR.map (fun i => (lits ++ tl)[i]?) = wr.map some) : va_D A (wr ++ tl) := hD.sub _ (tl_ndR hn (fun i hi => by rw [hlen]; exact hb i hi)) (tl_idx hR)
theorem tl_eqP {a b : va_W} (e : a = b) (h : va_P D cl a H) : va_P D cl b H := e ▸ h
theorem tl_eqD {a b : va_W} (e : a = b) (h : va_D A a) : va_D A b := e ▸ h
/-- one class for a type -/
theorem ty_u {tys : List (ClassId × FieldType)} {U : State} (hK : va_K D cl tys U) {ty : FieldType} {c c' : ClassId} (i j : Nat) (hi : tys[i]? = some (c, ty)) (hj : tys[j]? = some (c', ty)) : c = c' := by
  have a := (hK.2 i _ hi).2
  have b := (hK.2 j _ hj).2
  cases ty with
  | object C =>
    obtain ⟨_, _, _, _, _, a⟩ := a
    obtain ⟨_, _, _, _, _, b⟩ := b
    exact Option.some.inj (a.symm.trans b)
  | _ => exact Option.some.inj (a.symm.trans b)
end TL
/-- the array classes -/
def tyL (K : Nat → ClassId) : List (ClassId × FieldType) := [(K 0, .int), (K 1, .byte), (K 2, .short), (K 3, .boolean), (K 4, .long), (K 5, .object RX1), (K 6, .object RX2), (K 7, .array .int)]
section GQ
variable {p : Program} {l : Launch} {e : Env} {R : Room} {s : State} {m : MethodId} {args : Array Value} {below : List Frame} {meth : Method} {c : Code} {H : Heap} {locs : List Loc} {cells slots : Nat} {Q : State → Prop}
variable {cc : ByteArray} {pc : Nat} {ls : Array Slot} {rest : List Value} {D : va_G} {cl : List vw_C} {A : Nat → Prop} {ws : va_W} {H0 : Heap} {tys : List (ClassId × FieldType)}
theorem gd_top6 (cA : ClassId) (h : Nat) : gd_top cA 6 h 6 = vp_cell cA (6, .inr (.inr (.inr (.inr (fun i => if i < 6 then some (h + 1 + i) else none))))) := by
  simp [gd_top, Cell.setSlot, vp_cell, arrV, va_rf]
  rfl
theorem gd_row6 (cB : ClassId) : gd_row cB 6 (defaultValue .int) = vp_cell cB (6, .inl (fun _ => 0)) := by
  simp [gd_row, vp_cell, arrV, defaultValue]
  rfl
theorem gd_rows (T : State) (cA cB : ClassId) (n k : Nat) (v : Value) (i j : Nat) (hj : j < i) : (gd_st T cA cB n k v i).heap[T.heap.size + 1 + j]? = some (gd_row cB k v) := by
  induction i with
  | zero => omega
  | succ i ih =>
    have f := (gd_st_f T cA cB n k v i).1
    show (((gd_st T cA cB n k v i).pushCell (gd_row cB k v)).setCell T.heap.size _).heap[T.heap.size + 1 + j]? = _
    rw [State.heap_setCell_other (show T.heap.size ≠ T.heap.size + 1 + j by omega)]
    by_cases h : j < i
    · rw [State.heap_pushCell_of_lt (h := show T.heap.size + 1 + j < (gd_st T cA cB n k v i).heap.size by omega)]
      exact ih h
    · have hji : j = i := by omega
      subst hji
      have : (gd_st T cA cB n k v j).heap.size = T.heap.size + 1 + j := f
      simp [State.pushCell, ← this]
/-- new int[6][6], with all its cells -/
theorem mn_row6 (hexec : p.tables.exec = Jvm.exec) (hb : c.code = cc) {own : String} {index : Nat} (hown : s.vm.findClass own = some m.cls) (hclink : (Cond.classLink own index "[[I").before args s = true) (hover : va_AOA .int s) (harr : (Cond.arrayClass .int).before args s = true) (hK : va_K D cl tys s) {cA cB : ClassId} (i7 i0 : Nat) (h7 : tys[i7]? = some (cA, .array .int)) (h0 : tys[i0]? = some (cB, .int))
    (hP : va_P D cl ws H) (hD : va_D A ws) (hS : va_S A H0 H locs) (hA : ∀ q, H0.size ≤ q → A q) (hcells : cells + (1 + 6) ≤ R.cells) (hslots : slots + (6 + 6 * 6) ≤ R.slots) (hdg : decode cc pc = .ok (.multianewarray index 2, 4))
    (kk : ∀ (q : Nat) (H1 : Heap), va_P D cl (ws ++ [(q, .inl (cA, 6, .inr (.inr (.inr (.inr (fun i => if i < 6 then some (q + 1 + i) else none)))))), (q + 1, .inl (cB, 6, .inl (fun _ => 0))), (q + 1 + 1, .inl (cB, 6, .inl (fun _ => 0))), (q + 1 + 2, .inl (cB, 6, .inl (fun _ => 0))), (q + 1 + 3, .inl (cB, 6, .inl (fun _ => 0))), (q + 1 + 4, .inl (cB, 6, .inl (fun _ => 0))), (q + 1 + 5, .inl (cB, 6, .inl (fun _ => 0)))]) H1 → va_D A (ws ++ [(q, .inl (cA, 6, .inr (.inr (.inr (.inr (fun i => if i < 6 then some (q + 1 + i) else none)))))), (q + 1, .inl (cB, 6, .inl (fun _ => 0))), (q + 1 + 1, .inl (cB, 6, .inl (fun _ => 0))), (q + 1 + 2, .inl (cB, 6, .inl (fun _ => 0))), (q + 1 + 3, .inl (cB, 6, .inl (fun _ => 0))), (q + 1 + 4, .inl (cB, 6, .inl (fun _ => 0))), (q + 1 + 5, .inl (cB, 6, .inl (fun _ => 0)))]) → va_S A H0 H1 locs → W p l e R s m args below meth c H1 locs (cells + 1 + 6) (slots + 6 + 6 * 6) Q (F0 m (pc + 4) ls (.ref q :: rest))) : W p l e R s m args below meth c H locs cells slots Q (F0 m pc ls (.int 6 :: .int 6 :: rest)) := by
  intro T hT X
  have e6 : (6 : Int32).toNatClampNeg = 6 := by decide
  obtain ⟨vm1, cA', cB', fA, fB, X', step⟩ := gd_step (ty := .int) X hexec hown (by rw [show ("[" ++ (FieldType.array FieldType.int).toString) = "[[I" from by decide]; exact hclink) (va_AOA.use hover) harr (g := F0 m pc ls (.int 6 :: .int 6 :: rest)) rfl (by rw [hb]; exact hdg) rfl (by decide) (by decide) (by rw [e6]; decide) (by rw [e6]; decide) (by rw [e6]; decide) (by decide) (by decide) (by rw [e6]; exact hcells) (by rw [e6]; exact hslots)
  rw [e6] at X' step
  obtain rfl : cA = cA' := Option.some.inj ((hK.2 i7 _ h7).2.symm.trans fA)
  obtain rfl : cB = cB' := Option.some.inj ((hK.2 i0 _ h0).2.symm.trans fB)
  have hTh : (T.setVm vm1).heap = H := hT
  have f1 := gd_st_f (T.setVm vm1) cA cB 6 6 (defaultValue .int) 6
  have f2 : ∀ j, j < 6 → _ := fun j hj => gd_rows (T.setVm vm1) cA cB 6 6 (defaultValue .int) 6 j hj
  have hold : ∀ x : Nat, x < H.size → (gd_st (T.setVm vm1) cA cB 6 6 (defaultValue .int) 6).heap[x]? = H[x]? := fun x hx => by
    have := gd_st_old (T.setVm vm1) cA cB 6 6 (defaultValue .int) (a := x) (by rw [hTh]; exact hx) 6
    rw [hTh] at this
    exact this
  rw [hTh] at f1
  simp only [hTh] at f2
  have hsz := f1.1
  have c0 := f1.2.1
  rw [gd_top6] at c0
  rw [gd_row6] at f2
  have hTs : T.heap.size = H.size := by rw [← hTh]; rfl
  rw [hTs] at step
  have lt : ∀ (k : Nat) (q : Nat × va_E), ws[k]? = some q → q.1 < H.size := fun k q hq => (hP k q hq).lt
  obtain ⟨t, a1, b1⟩ := kk H.size _ (va_P.app (hP.kept (fun k9 x hx => hold x.1 (lt k9 x hx))) (tl_Pm.mpr (fun q hq => by
      simp only [List.mem_cons, List.mem_nil_iff, or_false] at hq
      rcases hq with rfl | rfl | rfl | rfl | rfl | rfl | rfl
      · exact c0
      · exact f2 0 (by omega)
      · exact f2 1 (by omega)
      · exact f2 2 (by omega)
      · exact f2 3 (by omega)
      · exact f2 4 (by omega)
      · exact f2 5 (by omega)))) (va_D.app hD (tl_Dm.mpr ⟨by simp; omega, fun q hq => by
      have hs1 := hS.1
      simp only [List.mem_cons, List.mem_nil_iff, or_false] at hq
      rcases hq with rfl | rfl | rfl | rfl | rfl | rfl | rfl <;> exact hA _ (by simp only []; omega)⟩) (fun i j x y hx hy hxy => by
      have h1 := lt i x hx
      have hq := List.mem_of_getElem? hy
      simp only [List.mem_cons, List.mem_nil_iff, or_false] at hq
      rcases hq with rfl | rfl | rfl | rfl | rfl | rfl | rfl <;> (simp only [] at hxy; omega)))
    ⟨by rw [hsz]; have := hS.1; omega, fun q h1 h2 => by rw [hold q (Nat.lt_of_lt_of_le h1 hS.1)]; exact hS.2.1 q h1 h2, hS.2.2⟩ _ rfl X'
  exact ⟨t, step t a1, b1⟩
end GQ

/-! part a0.zdefs -/
/-- the first memory -/
def I0 : Nat → Nat → Int32 := fun j k => if j = 0 then (if k = 5 then -9 else if k = 7 then -9 else 0) else if j = 2 then (if k = 0 then 1 else 0) else if j = 8 then (if k = 0 then 1 else 0) else if j = 17 then (if k = 1 then -9 else if k = 2 then -1000000 else 0) else if j = 33 then (if k = 1 then -9 else if k = 2 then -1000000 else 0) else if j = 45 then (if k = 1 then -9 else if k = 2 then -1000000 else 0) else if j = 57 then (if k = 1 then -9 else if k = 2 then -1000000 else 0) else if k = 15 then (if j = 22 then 1 else if j = 34 then 1 else if j = 46 then 1 else if j = 318 then 1 else 0) else if j = 318 then (if k = 23 then -9 else if k = 57 then -9 else if k = 61 then -9 else 0) else 0
def G0 : Nat → Nat → Nat := fun j k => if j = 0 then 34 else if j = 14 then (if k = 0 then 22 else 2) else 58
def A0 (u v : Nat → Int32) : Nat → Nat → Int32 := fun j => if j = 18 then u else if j = 19 then v else fun _ => 0
def L0 : Nat → Nat → Int64 := fun _ _ => 0
def VX (K : Nat → ClassId) (ad : Nat → Nat) (u v : Nat → Int32) : va_W := (List.range 318).map (fun j => (ad j, cell K ad I0 G0 (A0 u v) L0 j))
def VMR (K : Nat → ClassId) (m : Nat → Nat) : va_W := (List.range 60).map (fun i => (m i, cell K (fun j => m (j - 318)) I0 G0 (A0 (fun _ => 0) (fun _ => 0)) L0 (318 + i)))

/-! part a0.zfill -/
set_option maxHeartbeats 4000000 in
set_option maxRecDepth 100000 in
theorem c_J7_fill (l : Launch) (dC : Nat → ClassId) (dI : Nat → Nat → Nat) (sz : Nat) (h0 : Nat) (c0 : ClassId) (n0 : Nat) (f0 : Nat → Int32) (v0 : Int32) (hn0 : n0 < 2147483648) : Met l yJ7_fill_53178 wsJ7_fill_53178 ({ frames := 0, cells := 0, slots := 0, locals := 0 }) (va_Pc [.ref h0, .int v0] (fun U => U.heap.size = sz ∧ va_P (dC, dI) vwCl [(h0, .inl (c0, n0, .inl f0))] U.heap ∧ va_K (dC, dI) vwCl [(c0, .int)] U ∧ va_D (fun _ => True) [(h0, .inl (c0, n0, .inl f0))])) (va_Qv (fun (u : Nat → Int32) => ∀ j, j < n0 → u j = v0) (fun (u : Nat → Int32) (t : State) => va_P (dC, dI) vwCl [(h0, .inl (c0, n0, .inl u))] t.heap ∧ va_K (dC, dI) vwCl [(c0, .int)] t ∧ va_D (va_A [(h0, .inl (c0, n0, .inl f0))] sz) [(h0, .inl (c0, n0, .inl u))]) (va_A [(h0, .inl (c0, n0, .inl f0))] sz)) 0 0 (va_A [(h0, .inl (c0, n0, .inl f0))] sz) := by
  refine Met.ofW (cc := cJ7_fill_53178) (maxL := 4) (ret := none) (by decide) rfl ?_
  intro p e s m args below meth c s₁ B hml hv
  obtain ⟨rfl, hsz, hP, hK, hD0⟩ := hv
  have hx := B.exec
  have hb := B.bytes
  have hr := B.returns
  have hlocks := B.notSynchronized
  subst hsz
  have hD := hD0.self (sz := s.heap.size)
  generalize hAe : va_A [(h0, .inl (c0, n0, .inl f0))] s.heap.size = A at hD ⊢
  have hS : va_S A s.heap s.heap [] := va_S.rf
  have hl := lv_entry ([.ref h0, .int v0]) (n := 4) (Nat.le_of_ble_eq_true rfl)
  rw [lg_entry_eq]
  generalize (lg_sl ([.ref h0, .int v0]) ++ List.replicate (4 - (lg_sl ([.ref h0, .int v0])).length) Slot.unset).toArray = ls at hl ⊢
  have hl : lv_has ls 4 [(0, .ref h0), (1, .int v0)] := hl
  refine lv_iconst (v := 0) hx hb dJ7_fill_53178_0 (by decide) ?_
  refine lv_istore_n (lv' := [(2, .int 0), (0, .ref h0), (1, .int v0)]) hx hb dJ7_fill_53178_1 rfl hl (by decide) rfl (fun ls hl => ?_)
  refine lv_aload_n hx hb dJ7_fill_53178_2 rfl (lv_at hl 1 rfl) ?_
  refine va_alen (v := nI n0) hx hb hK hP 0 0 rfl rfl rfl dJ7_fill_53178_3 ?_
  refine lv_istore_n (lv' := [(3, .int (nI n0)), (2, .int 0), (0, .ref h0), (1, .int v0)]) hx hb dJ7_fill_53178_4 rfl hl (by decide) rfl (fun ls hl => ?_)
  have loop : ∀ (n i : Nat), i ≤ n0 → n0 + 1 ≤ i + n → ∀ (x2 : Int32), x2 = nI i → ∀ (f : Nat → Int32), (∀ j, j < i → f j = v0) → ∀ (H : Heap) (locs : List Loc), va_P (dC, dI) vwCl [(h0, .inl (c0, n0, .inl f))] H → va_D A [(h0, .inl (c0, n0, .inl f))] → va_S A s.heap H locs → ∀ (ls : Array Slot), lv_has ls 4 [(0, .ref h0), (1, .int v0), (2, .int x2), (3, .int (nI n0))] → W p l e ({ frames := 0, cells := 0, slots := 0, locals := 0 }) s m ([.ref h0, .int v0] : List Value).toArray below meth c H locs 0 0 (MQ below (va_Qv (fun (u : Nat → Int32) => ∀ j, j < n0 → u j = v0) (fun (u : Nat → Int32) (t : State) => va_P (dC, dI) vwCl [(h0, .inl (c0, n0, .inl u))] t.heap ∧ va_K (dC, dI) vwCl [(c0, .int)] t ∧ va_D A [(h0, .inl (c0, n0, .inl u))]) A) ([.ref h0, .int v0] : List Value).toArray s 0 0 A) (F0 m 5 ls []) := by
    intro n
    induction n with
    | zero => intro i h1 h2; exact absurd h2 (by omega)
    | succ n ih =>
      intro i hi hin x2 ex2 f hf H locs hP hD hS ls hl
      refine lv_iload_n hx hb dJ7_fill_53178_5 rfl (lv_at hl 2 rfl) ?_
      refine lv_iload_n hx hb dJ7_fill_53178_6 rfl (lv_at hl 3 rfl) ?_
      refine lv_icmp_ge (tgt := 20) hx hb dJ7_fill_53178_7 (by decide) (fun c_1 => ?_) (fun c_1 => ?_)
      · have he : n0 ≤ i := by
          rw [ex2] at c_1
          exact (nI_leI hn0 (Nat.lt_of_le_of_lt hi hn0)).mp c_1
        exact W.vret hx hb hr (fun t ht hW => ⟨⟨f, rfl, (fun j hj => hf j (by omega)), by rw [ht]; exact hP, va_K.moved hW.alike hK, hD⟩, hS.F ht⟩) hS.2.2 dJ7_fill_53178_20
      · have hlt : i < n0 := by
          rcases Nat.lt_or_ge i n0 with q | q
          · exact q
          · exact absurd (by rw [ex2]; exact nI_le q (Nat.lt_of_le_of_lt hi hn0)) c_1
        have h_in : vp_in x2 n0 := by rw [ex2]; exact vp_in_nI hlt hn0
        have hcl : x2.toNatClampNeg = i := by rw [ex2]; exact nI_clamp (by omega)
        refine lv_aload_n hx hb dJ7_fill_53178_10 rfl (lv_at hl 0 rfl) ?_
        refine lv_iload_n hx hb dJ7_fill_53178_11 rfl (lv_at hl 2 rfl) ?_
        refine lv_iload_n hx hb dJ7_fill_53178_12 rfl (lv_at hl 1 rfl) ?_
        refine va_iast hx hb hK hP hD hS 0 0 rfl rfl h_in dJ7_fill_53178_13 (fun H locs hP hD hS => ?_)
        have hP : va_P (dC, dI) vwCl [(h0, .inl (c0, n0, .inl (upd f x2.toNatClampNeg v0)))] H := hP
        have hD : va_D A [(h0, .inl (c0, n0, .inl (upd f x2.toNatClampNeg v0)))] := hD
        obtain ⟨x3, ex3⟩ : ∃ y : Int32, y = x2 + 1 := ⟨_, rfl⟩
        refine lv_iinc (v := x3) (lv' := [(2, .int x3), (0, .ref h0), (1, .int v0), (3, .int (nI n0))]) hx hb dJ7_fill_53178_14 hl (k := 2) rfl (by rw [ex3]; rfl) (by decide) rfl (fun ls hl => ?_)
        refine lv_goto (tgt := 5) hx hb dJ7_fill_53178_17 (by decide) ?_
        refine ih (i + 1) hlt (by omega) x3 (by rw [ex3, ex2]; exact nI_1 i) (upd f x2.toNatClampNeg v0) (fun j hj => ?_) H locs hP hD hS ls (lv_sub hl [1, 2, 0, 3] rfl)
        rw [hcl]
        by_cases hji : j = i
        · subst hji; exact pk_us
        · rw [pk_un hji]; exact hf j (by omega)
  exact loop (n0 + 1) 0 (Nat.zero_le _) (by omega) 0 nI_0.symm f0 (fun j hj => absurd hj (Nat.not_lt_zero j)) s.heap [] hP hD hS ls (lv_sub hl [2, 3, 1, 0] rfl)

/-! part a0.zrows -/
theorem dX0_init_0 : decode cX0_init 0 = .ok (.aload_n 0, 1) := by decide +kernel
theorem dX0_init_1 : decode cX0_init 1 = .ok (.invokespecial 3, 3) := by decide +kernel
theorem dX0_init_4 : decode cX0_init 4 = .ok (.aload_n 0, 1) := by decide +kernel
theorem dX0_init_5 : decode cX0_init 5 = .ok (.iconst 0, 1) := by decide +kernel
theorem dX0_init_6 : decode cX0_init 6 = .ok (.putfield 9, 3) := by decide +kernel
theorem dX0_init_9 : decode cX0_init 9 = .ok (.aload_n 0, 1) := by decide +kernel
theorem dX0_init_10 : decode cX0_init 10 = .ok (.bipush (-9), 2) := by decide +kernel
theorem dX0_init_12 : decode cX0_init 12 = .ok (.putfield 15, 3) := by decide +kernel
theorem dX0_init_15 : decode cX0_init 15 = .ok (.aload_n 0, 1) := by decide +kernel
theorem dX0_init_16 : decode cX0_init 16 = .ok (.ldc 18, 2) := by decide +kernel
theorem dX0_init_18 : decode cX0_init 18 = .ok (.putfield 19, 3) := by decide +kernel
theorem dX0_init_21 : decode cX0_init 21 = .ok (.return_, 1) := by decide +kernel
set_option maxRecDepth 20000 in
theorem ggX1_init_X2_init : GoodIn wsX1_init wsX2_init := goodIn_g _ [(19, 2), (2, 2), (21, 3), (8, 1), (24, 5), (38, 7)] rfl (by decide +kernel)
set_option maxRecDepth 20000 in
theorem gX1_init_X2_init_n46 : GoodIn wsX1_init (wsX2_init) := ggX1_init_X2_init
theorem dX1_init_0 : decode cX1_init 0 = .ok (.aload_n 0, 1) := by decide +kernel
theorem dX1_init_1 : decode cX1_init 1 = .ok (.invokespecial 3, 3) := by decide +kernel
theorem dX1_init_4 : decode cX1_init 4 = .ok (.aload_n 0, 1) := by decide +kernel
theorem dX1_init_5 : decode cX1_init 5 = .ok (.iconst 0, 1) := by decide +kernel
theorem dX1_init_6 : decode cX1_init 6 = .ok (.putfield 9, 3) := by decide +kernel
theorem dX1_init_9 : decode cX1_init 9 = .ok (.aload_n 0, 1) := by decide +kernel
theorem dX1_init_10 : decode cX1_init 10 = .ok (.iconst 0, 1) := by decide +kernel
theorem dX1_init_11 : decode cX1_init 11 = .ok (.putfield 15, 3) := by decide +kernel
theorem dX1_init_14 : decode cX1_init 14 = .ok (.aload_n 0, 1) := by decide +kernel
theorem dX1_init_15 : decode cX1_init 15 = .ok (.iconst 0, 1) := by decide +kernel
theorem dX1_init_16 : decode cX1_init 16 = .ok (.putfield 18, 3) := by decide +kernel
theorem dX1_init_19 : decode cX1_init 19 = .ok (.aload_n 0, 1) := by decide +kernel
theorem dX1_init_20 : decode cX1_init 20 = .ok (.iconst 0, 1) := by decide +kernel
theorem dX1_init_21 : decode cX1_init 21 = .ok (.putfield 21, 3) := by decide +kernel
theorem dX1_init_24 : decode cX1_init 24 = .ok (.aload_n 0, 1) := by decide +kernel
theorem dX1_init_25 : decode cX1_init 25 = .ok (.bipush 6, 2) := by decide +kernel
theorem dX1_init_27 : decode cX1_init 27 = .ok (.newarray .int, 2) := by decide +kernel
theorem dX1_init_29 : decode cX1_init 29 = .ok (.putfield 25, 3) := by decide +kernel
theorem dX1_init_32 : decode cX1_init 32 = .ok (.aload_n 0, 1) := by decide +kernel
theorem dX1_init_33 : decode cX1_init 33 = .ok (.bipush 6, 2) := by decide +kernel
theorem dX1_init_35 : decode cX1_init 35 = .ok (.newarray .int, 2) := by decide +kernel
theorem dX1_init_37 : decode cX1_init 37 = .ok (.putfield 29, 3) := by decide +kernel
theorem dX1_init_40 : decode cX1_init 40 = .ok (.aload_n 0, 1) := by decide +kernel
theorem dX1_init_41 : decode cX1_init 41 = .ok (.bipush 6, 2) := by decide +kernel
theorem dX1_init_43 : decode cX1_init 43 = .ok (.bipush 6, 2) := by decide +kernel
theorem dX1_init_45 : decode cX1_init 45 = .ok (.multianewarray 32 2, 4) := by decide +kernel
theorem dX1_init_49 : decode cX1_init 49 = .ok (.putfield 34, 3) := by decide +kernel
theorem dX1_init_52 : decode cX1_init 52 = .ok (.aload_n 0, 1) := by decide +kernel
theorem dX1_init_53 : decode cX1_init 53 = .ok (.bipush 8, 2) := by decide +kernel
theorem dX1_init_55 : decode cX1_init 55 = .ok (.anewarray 37, 3) := by decide +kernel
theorem dX1_init_58 : decode cX1_init 58 = .ok (.putfield 39, 3) := by decide +kernel
theorem dX1_init_61 : decode cX1_init 61 = .ok (.aload_n 0, 1) := by decide +kernel
theorem dX1_init_62 : decode cX1_init 62 = .ok (.bipush 12, 2) := by decide +kernel
theorem dX1_init_64 : decode cX1_init 64 = .ok (.newarray .int, 2) := by decide +kernel
theorem dX1_init_66 : decode cX1_init 66 = .ok (.putfield 43, 3) := by decide +kernel
theorem dX1_init_69 : decode cX1_init 69 = .ok (.iconst 0, 1) := by decide +kernel
theorem dX1_init_70 : decode cX1_init 70 = .ok (.istore_n 1, 1) := by decide +kernel
theorem dX1_init_71 : decode cX1_init 71 = .ok (.iload_n 1, 1) := by decide +kernel
theorem dX1_init_72 : decode cX1_init 72 = .ok (.bipush 8, 2) := by decide +kernel
theorem dX1_init_74 : decode cX1_init 74 = .ok (.if_icmp .ge 22, 3) := by decide +kernel
theorem dX1_init_77 : decode cX1_init 77 = .ok (.aload_n 0, 1) := by decide +kernel
theorem dX1_init_78 : decode cX1_init 78 = .ok (.getfield 39, 3) := by decide +kernel
theorem dX1_init_81 : decode cX1_init 81 = .ok (.iload_n 1, 1) := by decide +kernel
theorem dX1_init_82 : decode cX1_init 82 = .ok (.new 37, 3) := by decide +kernel
theorem dX1_init_85 : decode cX1_init 85 = .ok (.dup, 1) := by decide +kernel
theorem dX1_init_86 : decode cX1_init 86 = .ok (.invokespecial 46, 3) := by decide +kernel
theorem dX1_init_89 : decode cX1_init 89 = .ok (.aastore, 1) := by decide +kernel
theorem dX1_init_90 : decode cX1_init 90 = .ok (.iinc 1 1, 3) := by decide +kernel
theorem dX1_init_93 : decode cX1_init 93 = .ok (.goto (-22), 3) := by decide +kernel
theorem dX1_init_96 : decode cX1_init 96 = .ok (.return_, 1) := by decide +kernel
theorem dX2_init_0 : decode cX2_init 0 = .ok (.aload_n 0, 1) := by decide +kernel
theorem dX2_init_1 : decode cX2_init 1 = .ok (.invokespecial 3, 3) := by decide +kernel
theorem dX2_init_4 : decode cX2_init 4 = .ok (.aload_n 0, 1) := by decide +kernel
theorem dX2_init_5 : decode cX2_init 5 = .ok (.iconst 0, 1) := by decide +kernel
theorem dX2_init_6 : decode cX2_init 6 = .ok (.putfield 9, 3) := by decide +kernel
theorem dX2_init_9 : decode cX2_init 9 = .ok (.aload_n 0, 1) := by decide +kernel
theorem dX2_init_10 : decode cX2_init 10 = .ok (.iconst 0, 1) := by decide +kernel
theorem dX2_init_11 : decode cX2_init 11 = .ok (.putfield 15, 3) := by decide +kernel
theorem dX2_init_14 : decode cX2_init 14 = .ok (.aload_n 0, 1) := by decide +kernel
theorem dX2_init_15 : decode cX2_init 15 = .ok (.iconst 0, 1) := by decide +kernel
theorem dX2_init_16 : decode cX2_init 16 = .ok (.putfield 18, 3) := by decide +kernel
theorem dX2_init_19 : decode cX2_init 19 = .ok (.aload_n 0, 1) := by decide +kernel
theorem dX2_init_20 : decode cX2_init 20 = .ok (.bipush 6, 2) := by decide +kernel
theorem dX2_init_22 : decode cX2_init 22 = .ok (.newarray .int, 2) := by decide +kernel
theorem dX2_init_24 : decode cX2_init 24 = .ok (.putfield 21, 3) := by decide +kernel
theorem dX2_init_27 : decode cX2_init 27 = .ok (.aload_n 0, 1) := by decide +kernel
theorem dX2_init_28 : decode cX2_init 28 = .ok (.bipush 6, 2) := by decide +kernel
theorem dX2_init_30 : decode cX2_init 30 = .ok (.newarray .int, 2) := by decide +kernel
theorem dX2_init_32 : decode cX2_init 32 = .ok (.putfield 25, 3) := by decide +kernel
theorem dX2_init_35 : decode cX2_init 35 = .ok (.aload_n 0, 1) := by decide +kernel
theorem dX2_init_36 : decode cX2_init 36 = .ok (.bipush 6, 2) := by decide +kernel
theorem dX2_init_38 : decode cX2_init 38 = .ok (.newarray .boolean, 2) := by decide +kernel
theorem dX2_init_40 : decode cX2_init 40 = .ok (.putfield 28, 3) := by decide +kernel
theorem dX2_init_43 : decode cX2_init 43 = .ok (.aload_n 0, 1) := by decide +kernel
theorem dX2_init_44 : decode cX2_init 44 = .ok (.bipush 6, 2) := by decide +kernel
theorem dX2_init_46 : decode cX2_init 46 = .ok (.newarray .int, 2) := by decide +kernel
theorem dX2_init_48 : decode cX2_init 48 = .ok (.putfield 32, 3) := by decide +kernel
theorem dX2_init_51 : decode cX2_init 51 = .ok (.return_, 1) := by decide +kernel
set_option maxRecDepth 20000 in
theorem ggX3_init_X5_init : GoodIn wsX3_init wsX5_init := goodIn_g _ [(16, 2), (2, 2), (6, 1), (18, 34), (58, 19)] rfl (by decide +kernel)
set_option maxRecDepth 20000 in
theorem gX3_init_X5_init : GoodIn wsX3_init (wsX5_init) := ggX3_init_X5_init
theorem dX3_init_0 : decode cX3_init 0 = .ok (.aload_n 0, 1) := by decide +kernel
theorem dX3_init_1 : decode cX3_init 1 = .ok (.invokespecial 3, 3) := by decide +kernel
theorem dX3_init_4 : decode cX3_init 4 = .ok (.aload_n 0, 1) := by decide +kernel
theorem dX3_init_5 : decode cX3_init 5 = .ok (.iconst 0, 1) := by decide +kernel
theorem dX3_init_6 : decode cX3_init 6 = .ok (.putfield 9, 3) := by decide +kernel
theorem dX3_init_9 : decode cX3_init 9 = .ok (.aload_n 0, 1) := by decide +kernel
theorem dX3_init_10 : decode cX3_init 10 = .ok (.iconst 0, 1) := by decide +kernel
theorem dX3_init_11 : decode cX3_init 11 = .ok (.putfield 15, 3) := by decide +kernel
theorem dX3_init_14 : decode cX3_init 14 = .ok (.aload_n 0, 1) := by decide +kernel
theorem dX3_init_15 : decode cX3_init 15 = .ok (.iconst 5, 1) := by decide +kernel
theorem dX3_init_16 : decode cX3_init 16 = .ok (.newarray .int, 2) := by decide +kernel
theorem dX3_init_18 : decode cX3_init 18 = .ok (.putfield 18, 3) := by decide +kernel
theorem dX3_init_21 : decode cX3_init 21 = .ok (.aload_n 0, 1) := by decide +kernel
theorem dX3_init_22 : decode cX3_init 22 = .ok (.iconst 5, 1) := by decide +kernel
theorem dX3_init_23 : decode cX3_init 23 = .ok (.newarray .int, 2) := by decide +kernel
theorem dX3_init_25 : decode cX3_init 25 = .ok (.putfield 22, 3) := by decide +kernel
theorem dX3_init_28 : decode cX3_init 28 = .ok (.aload_n 0, 1) := by decide +kernel
theorem dX3_init_29 : decode cX3_init 29 = .ok (.new 25, 3) := by decide +kernel
theorem dX3_init_32 : decode cX3_init 32 = .ok (.dup, 1) := by decide +kernel
theorem dX3_init_33 : decode cX3_init 33 = .ok (.aload_n 1, 1) := by decide +kernel
theorem dX3_init_34 : decode cX3_init 34 = .ok (.sipush 285, 3) := by decide +kernel
theorem dX3_init_37 : decode cX3_init 37 = .ok (.invokespecial 27, 3) := by decide +kernel
theorem dX3_init_40 : decode cX3_init 40 = .ok (.putfield 30, 3) := by decide +kernel
theorem dX3_init_43 : decode cX3_init 43 = .ok (.aload_n 0, 1) := by decide +kernel
theorem dX3_init_44 : decode cX3_init 44 = .ok (.aload_n 2, 1) := by decide +kernel
theorem dX3_init_45 : decode cX3_init 45 = .ok (.putfield 34, 3) := by decide +kernel
theorem dX3_init_48 : decode cX3_init 48 = .ok (.return_, 1) := by decide +kernel
theorem dX4_init_0 : decode cX4_init 0 = .ok (.aload_n 0, 1) := by decide +kernel
theorem dX4_init_1 : decode cX4_init 1 = .ok (.invokespecial 3, 3) := by decide +kernel
theorem dX4_init_4 : decode cX4_init 4 = .ok (.aload_n 0, 1) := by decide +kernel
theorem dX4_init_5 : decode cX4_init 5 = .ok (.iconst 1, 1) := by decide +kernel
theorem dX4_init_6 : decode cX4_init 6 = .ok (.putfield 9, 3) := by decide +kernel
theorem dX4_init_9 : decode cX4_init 9 = .ok (.aload_n 0, 1) := by decide +kernel
theorem dX4_init_10 : decode cX4_init 10 = .ok (.iconst 0, 1) := by decide +kernel
theorem dX4_init_11 : decode cX4_init 11 = .ok (.putfield 15, 3) := by decide +kernel
theorem dX4_init_14 : decode cX4_init 14 = .ok (.aload_n 0, 1) := by decide +kernel
theorem dX4_init_15 : decode cX4_init 15 = .ok (.iconst 5, 1) := by decide +kernel
theorem dX4_init_16 : decode cX4_init 16 = .ok (.newarray .int, 2) := by decide +kernel
theorem dX4_init_18 : decode cX4_init 18 = .ok (.putfield 18, 3) := by decide +kernel
theorem dX4_init_21 : decode cX4_init 21 = .ok (.aload_n 0, 1) := by decide +kernel
theorem dX4_init_22 : decode cX4_init 22 = .ok (.sipush 200, 3) := by decide +kernel
theorem dX4_init_25 : decode cX4_init 25 = .ok (.newarray .int, 2) := by decide +kernel
theorem dX4_init_27 : decode cX4_init 27 = .ok (.putfield 22, 3) := by decide +kernel
theorem dX4_init_30 : decode cX4_init 30 = .ok (.aload_n 0, 1) := by decide +kernel
theorem dX4_init_31 : decode cX4_init 31 = .ok (.iconst 5, 1) := by decide +kernel
theorem dX4_init_32 : decode cX4_init 32 = .ok (.newarray .int, 2) := by decide +kernel
theorem dX4_init_34 : decode cX4_init 34 = .ok (.putfield 25, 3) := by decide +kernel
theorem dX4_init_37 : decode cX4_init 37 = .ok (.aload_n 0, 1) := by decide +kernel
theorem dX4_init_38 : decode cX4_init 38 = .ok (.iconst 5, 1) := by decide +kernel
theorem dX4_init_39 : decode cX4_init 39 = .ok (.newarray .int, 2) := by decide +kernel
theorem dX4_init_41 : decode cX4_init 41 = .ok (.putfield 28, 3) := by decide +kernel
theorem dX4_init_44 : decode cX4_init 44 = .ok (.aload_n 0, 1) := by decide +kernel
theorem dX4_init_45 : decode cX4_init 45 = .ok (.iconst 5, 1) := by decide +kernel
theorem dX4_init_46 : decode cX4_init 46 = .ok (.newarray .int, 2) := by decide +kernel
theorem dX4_init_48 : decode cX4_init 48 = .ok (.putfield 31, 3) := by decide +kernel
theorem dX4_init_51 : decode cX4_init 51 = .ok (.return_, 1) := by decide +kernel
set_option maxRecDepth 20000 in
theorem ggX5_init_X0_init : GoodIn wsX5_init wsX0_init := goodIn_g _ [(33, 2), (2, 2), (35, 4), (55, 3)] rfl (by decide +kernel)
set_option maxRecDepth 20000 in
theorem gX5_init_X0_init_n30 : GoodIn wsX5_init (wsX0_init) := ggX5_init_X0_init
theorem dX5_init_0 : decode cX5_init 0 = .ok (.aload_n 0, 1) := by decide +kernel
theorem dX5_init_1 : decode cX5_init 1 = .ok (.invokespecial 5, 3) := by decide +kernel
theorem dX5_init_4 : decode cX5_init 4 = .ok (.aload_n 0, 1) := by decide +kernel
theorem dX5_init_5 : decode cX5_init 5 = .ok (.sipush 250, 3) := by decide +kernel
theorem dX5_init_8 : decode cX5_init 8 = .ok (.newarray .int, 2) := by decide +kernel
theorem dX5_init_10 : decode cX5_init 10 = .ok (.putfield 11, 3) := by decide +kernel
theorem dX5_init_13 : decode cX5_init 13 = .ok (.aload_n 0, 1) := by decide +kernel
theorem dX5_init_14 : decode cX5_init 14 = .ok (.iconst 0, 1) := by decide +kernel
theorem dX5_init_15 : decode cX5_init 15 = .ok (.putfield 15, 3) := by decide +kernel
theorem dX5_init_18 : decode cX5_init 18 = .ok (.aload_n 0, 1) := by decide +kernel
theorem dX5_init_19 : decode cX5_init 19 = .ok (.iconst 0, 1) := by decide +kernel
theorem dX5_init_20 : decode cX5_init 20 = .ok (.putfield 19, 3) := by decide +kernel
theorem dX5_init_23 : decode cX5_init 23 = .ok (.aload_n 0, 1) := by decide +kernel
theorem dX5_init_24 : decode cX5_init 24 = .ok (.iconst 0, 1) := by decide +kernel
theorem dX5_init_25 : decode cX5_init 25 = .ok (.putfield 22, 3) := by decide +kernel
theorem dX5_init_28 : decode cX5_init 28 = .ok (.aload_n 0, 1) := by decide +kernel
theorem dX5_init_29 : decode cX5_init 29 = .ok (.bipush 6, 2) := by decide +kernel
theorem dX5_init_31 : decode cX5_init 31 = .ok (.newarray .int, 2) := by decide +kernel
theorem dX5_init_33 : decode cX5_init 33 = .ok (.putfield 25, 3) := by decide +kernel
theorem dX5_init_36 : decode cX5_init 36 = .ok (.aload_n 0, 1) := by decide +kernel
theorem dX5_init_37 : decode cX5_init 37 = .ok (.new 28, 3) := by decide +kernel
theorem dX5_init_40 : decode cX5_init 40 = .ok (.dup, 1) := by decide +kernel
theorem dX5_init_41 : decode cX5_init 41 = .ok (.invokespecial 30, 3) := by decide +kernel
theorem dX5_init_44 : decode cX5_init 44 = .ok (.putfield 31, 3) := by decide +kernel
theorem dX5_init_47 : decode cX5_init 47 = .ok (.aload_n 0, 1) := by decide +kernel
theorem dX5_init_48 : decode cX5_init 48 = .ok (.iconst 1, 1) := by decide +kernel
theorem dX5_init_49 : decode cX5_init 49 = .ok (.putfield 35, 3) := by decide +kernel
theorem dX5_init_52 : decode cX5_init 52 = .ok (.iconst 1, 1) := by decide +kernel
theorem dX5_init_53 : decode cX5_init 53 = .ok (.iconst 0, 1) := by decide +kernel
theorem dX5_init_54 : decode cX5_init 54 = .ok (.iload_n 2, 1) := by decide +kernel
theorem dX5_init_55 : decode cX5_init 55 = .ok (.invokestatic 39, 3) := by decide +kernel
theorem dX5_init_58 : decode cX5_init 58 = .ok (.bipush 6, 2) := by decide +kernel
theorem dX5_init_60 : decode cX5_init 60 = .ok (.imul, 1) := by decide +kernel
theorem dX5_init_61 : decode cX5_init 61 = .ok (.iadd, 1) := by decide +kernel
theorem dX5_init_62 : decode cX5_init 62 = .ok (.istore_n 3, 1) := by decide +kernel
theorem dX5_init_63 : decode cX5_init 63 = .ok (.aload_n 0, 1) := by decide +kernel
theorem dX5_init_64 : decode cX5_init 64 = .ok (.aload_n 1, 1) := by decide +kernel
theorem dX5_init_65 : decode cX5_init 65 = .ok (.putfield 45, 3) := by decide +kernel
theorem dX5_init_68 : decode cX5_init 68 = .ok (.aload_n 0, 1) := by decide +kernel
theorem dX5_init_69 : decode cX5_init 69 = .ok (.iload_n 3, 1) := by decide +kernel
theorem dX5_init_70 : decode cX5_init 70 = .ok (.newarray .long, 2) := by decide +kernel
theorem dX5_init_72 : decode cX5_init 72 = .ok (.putfield 49, 3) := by decide +kernel
theorem dX5_init_75 : decode cX5_init 75 = .ok (.aload_n 0, 1) := by decide +kernel
theorem dX5_init_76 : decode cX5_init 76 = .ok (.iload_n 3, 1) := by decide +kernel
theorem dX5_init_77 : decode cX5_init 77 = .ok (.newarray .byte, 2) := by decide +kernel
theorem dX5_init_79 : decode cX5_init 79 = .ok (.putfield 53, 3) := by decide +kernel
theorem dX5_init_82 : decode cX5_init 82 = .ok (.aload_n 0, 1) := by decide +kernel
theorem dX5_init_83 : decode cX5_init 83 = .ok (.iload_n 3, 1) := by decide +kernel
theorem dX5_init_84 : decode cX5_init 84 = .ok (.newarray .byte, 2) := by decide +kernel
theorem dX5_init_86 : decode cX5_init 86 = .ok (.putfield 57, 3) := by decide +kernel
theorem dX5_init_89 : decode cX5_init 89 = .ok (.aload_n 0, 1) := by decide +kernel
theorem dX5_init_90 : decode cX5_init 90 = .ok (.iload_n 3, 1) := by decide +kernel
theorem dX5_init_91 : decode cX5_init 91 = .ok (.newarray .byte, 2) := by decide +kernel
theorem dX5_init_93 : decode cX5_init 93 = .ok (.putfield 60, 3) := by decide +kernel
theorem dX5_init_96 : decode cX5_init 96 = .ok (.aload_n 0, 1) := by decide +kernel
theorem dX5_init_97 : decode cX5_init 97 = .ok (.iload_n 3, 1) := by decide +kernel
theorem dX5_init_98 : decode cX5_init 98 = .ok (.newarray .byte, 2) := by decide +kernel
theorem dX5_init_100 : decode cX5_init 100 = .ok (.putfield 63, 3) := by decide +kernel
theorem dX5_init_103 : decode cX5_init 103 = .ok (.aload_n 0, 1) := by decide +kernel
theorem dX5_init_104 : decode cX5_init 104 = .ok (.iload_n 3, 1) := by decide +kernel
theorem dX5_init_105 : decode cX5_init 105 = .ok (.newarray .byte, 2) := by decide +kernel
theorem dX5_init_107 : decode cX5_init 107 = .ok (.putfield 66, 3) := by decide +kernel
theorem dX5_init_110 : decode cX5_init 110 = .ok (.aload_n 0, 1) := by decide +kernel
theorem dX5_init_111 : decode cX5_init 111 = .ok (.iload_n 3, 1) := by decide +kernel
theorem dX5_init_112 : decode cX5_init 112 = .ok (.newarray .short, 2) := by decide +kernel
theorem dX5_init_114 : decode cX5_init 114 = .ok (.putfield 69, 3) := by decide +kernel
theorem dX5_init_117 : decode cX5_init 117 = .ok (.aload_n 0, 1) := by decide +kernel
theorem dX5_init_118 : decode cX5_init 118 = .ok (.iload_n 3, 1) := by decide +kernel
theorem dX5_init_119 : decode cX5_init 119 = .ok (.newarray .boolean, 2) := by decide +kernel
theorem dX5_init_121 : decode cX5_init 121 = .ok (.putfield 73, 3) := by decide +kernel
theorem dX5_init_124 : decode cX5_init 124 = .ok (.return_, 1) := by decide +kernel
set_option maxRecDepth 20000 in
theorem ggX6_init_X4_init : GoodIn wsX6_init wsX4_init := goodIn_g _ [(39, 2), (2, 2), (41, 2), (16, 1), (43, 5), (145, 7)] rfl (by decide +kernel)
set_option maxRecDepth 20000 in
theorem gX6_init_X4_init_n21 : GoodIn wsX6_init (wsX4_init) := ggX6_init_X4_init
set_option maxRecDepth 20000 in
theorem ggX6_init_X0_init : GoodIn wsX6_init wsX0_init := goodIn_g _ [(49, 2), (2, 2), (51, 4), (152, 3)] rfl (by decide +kernel)
set_option maxRecDepth 20000 in
theorem gX6_init_X0_init_n47 : GoodIn wsX6_init (wsX0_init) := ggX6_init_X0_init
set_option maxRecDepth 20000 in
theorem ggX6_init_X1_init : GoodIn wsX6_init wsX1_init := goodIn_g _ [(57, 2), (2, 2), (59, 4), (16, 1), (63, 20), (155, 9), (186, 7)] rfl (by decide +kernel)
set_option maxRecDepth 20000 in
theorem gX6_init_X1_init : GoodIn wsX6_init (wsX1_init) := ggX6_init_X1_init
set_option maxRecDepth 20000 in
theorem ggX6_init_X3_init : GoodIn wsX6_init wsX3_init := goodIn_g _ [(85, 2), (2, 2), (87, 2), (16, 1), (89, 3), (34, 2), (92, 12), (19, 2), (104, 17), (80, 1), (121, 1), (48, 7), (164, 22), (152, 3)] rfl (by decide +kernel)
set_option maxRecDepth 20000 in
theorem gX6_init_X3_init : GoodIn wsX6_init (wsX3_init) := ggX6_init_X3_init
set_option maxRecDepth 20000 in
theorem ggX6_init_X5_init : GoodIn wsX6_init wsX5_init := goodIn_g _ [(96, 2), (2, 2), (16, 1), (98, 6), (19, 2), (104, 17), (80, 1), (121, 1), (48, 7), (170, 16), (152, 3)] rfl (by decide +kernel)
set_option maxRecDepth 20000 in
theorem gX6_init_X5_init : GoodIn wsX6_init (wsX5_init) := ggX6_init_X5_init
set_option maxRecDepth 20000 in
theorem ggX6_init_J7_fill_53178 : GoodIn wsX6_init wsJ7_fill_53178 := goodIn_g _ [(126, 1)] rfl (by decide +kernel)
set_option maxRecDepth 20000 in
theorem gX6_init_J7_fill_53178 : GoodIn wsX6_init (va_wsS RX6 89 yJ7_fill_53178 wsJ7_fill_53178) := goodIn_app (goodIn_of _ (by decide +kernel)) ggX6_init_J7_fill_53178
theorem dX6_init_0 : decode cX6_init 0 = .ok (.aload_n 0, 1) := by decide +kernel
theorem dX6_init_1 : decode cX6_init 1 = .ok (.invokespecial 3, 3) := by decide +kernel
theorem dX6_init_4 : decode cX6_init 4 = .ok (.aload_n 0, 1) := by decide +kernel
theorem dX6_init_5 : decode cX6_init 5 = .ok (.iconst 5, 1) := by decide +kernel
theorem dX6_init_6 : decode cX6_init 6 = .ok (.anewarray 9, 3) := by decide +kernel
theorem dX6_init_9 : decode cX6_init 9 = .ok (.putfield 11, 3) := by decide +kernel
theorem dX6_init_12 : decode cX6_init 12 = .ok (.aload_n 0, 1) := by decide +kernel
theorem dX6_init_13 : decode cX6_init 13 = .ok (.iconst 0, 1) := by decide +kernel
theorem dX6_init_14 : decode cX6_init 14 = .ok (.putfield 15, 3) := by decide +kernel
theorem dX6_init_17 : decode cX6_init 17 = .ok (.aload_n 0, 1) := by decide +kernel
theorem dX6_init_18 : decode cX6_init 18 = .ok (.new 19, 3) := by decide +kernel
theorem dX6_init_21 : decode cX6_init 21 = .ok (.dup, 1) := by decide +kernel
theorem dX6_init_22 : decode cX6_init 22 = .ok (.invokespecial 21, 3) := by decide +kernel
theorem dX6_init_25 : decode cX6_init 25 = .ok (.putfield 22, 3) := by decide +kernel
theorem dX6_init_28 : decode cX6_init 28 = .ok (.aload_n 0, 1) := by decide +kernel
theorem dX6_init_29 : decode cX6_init 29 = .ok (.iconst 0, 1) := by decide +kernel
theorem dX6_init_30 : decode cX6_init 30 = .ok (.putfield 26, 3) := by decide +kernel
theorem dX6_init_33 : decode cX6_init 33 = .ok (.aload_n 0, 1) := by decide +kernel
theorem dX6_init_34 : decode cX6_init 34 = .ok (.bipush (-9), 2) := by decide +kernel
theorem dX6_init_36 : decode cX6_init 36 = .ok (.putfield 29, 3) := by decide +kernel
theorem dX6_init_39 : decode cX6_init 39 = .ok (.aload_n 0, 1) := by decide +kernel
theorem dX6_init_40 : decode cX6_init 40 = .ok (.bipush (-9), 2) := by decide +kernel
theorem dX6_init_42 : decode cX6_init 42 = .ok (.putfield 32, 3) := by decide +kernel
theorem dX6_init_45 : decode cX6_init 45 = .ok (.aload_n 0, 1) := by decide +kernel
theorem dX6_init_46 : decode cX6_init 46 = .ok (.iconst 0, 1) := by decide +kernel
theorem dX6_init_47 : decode cX6_init 47 = .ok (.putfield 35, 3) := by decide +kernel
theorem dX6_init_50 : decode cX6_init 50 = .ok (.aload_n 0, 1) := by decide +kernel
theorem dX6_init_51 : decode cX6_init 51 = .ok (.iconst 0, 1) := by decide +kernel
theorem dX6_init_52 : decode cX6_init 52 = .ok (.putfield 38, 3) := by decide +kernel
theorem dX6_init_55 : decode cX6_init 55 = .ok (.aload_n 0, 1) := by decide +kernel
theorem dX6_init_56 : decode cX6_init 56 = .ok (.bipush 6, 2) := by decide +kernel
theorem dX6_init_58 : decode cX6_init 58 = .ok (.newarray .int, 2) := by decide +kernel
theorem dX6_init_60 : decode cX6_init 60 = .ok (.putfield 41, 3) := by decide +kernel
theorem dX6_init_63 : decode cX6_init 63 = .ok (.aload_n 0, 1) := by decide +kernel
theorem dX6_init_64 : decode cX6_init 64 = .ok (.new 45, 3) := by decide +kernel
theorem dX6_init_67 : decode cX6_init 67 = .ok (.dup, 1) := by decide +kernel
theorem dX6_init_68 : decode cX6_init 68 = .ok (.invokespecial 47, 3) := by decide +kernel
theorem dX6_init_71 : decode cX6_init 71 = .ok (.putfield 48, 3) := by decide +kernel
theorem dX6_init_74 : decode cX6_init 74 = .ok (.aload_n 0, 1) := by decide +kernel
theorem dX6_init_75 : decode cX6_init 75 = .ok (.bipush 6, 2) := by decide +kernel
theorem dX6_init_77 : decode cX6_init 77 = .ok (.newarray .int, 2) := by decide +kernel
theorem dX6_init_79 : decode cX6_init 79 = .ok (.putfield 52, 3) := by decide +kernel
theorem dX6_init_82 : decode cX6_init 82 = .ok (.aload_n 0, 1) := by decide +kernel
theorem dX6_init_83 : decode cX6_init 83 = .ok (.new 19, 3) := by decide +kernel
theorem dX6_init_86 : decode cX6_init 86 = .ok (.dup, 1) := by decide +kernel
theorem dX6_init_87 : decode cX6_init 87 = .ok (.invokespecial 21, 3) := by decide +kernel
theorem dX6_init_90 : decode cX6_init 90 = .ok (.putfield 55, 3) := by decide +kernel
theorem dX6_init_93 : decode cX6_init 93 = .ok (.aload_n 0, 1) := by decide +kernel
theorem dX6_init_94 : decode cX6_init 94 = .ok (.bipush 12, 2) := by decide +kernel
theorem dX6_init_96 : decode cX6_init 96 = .ok (.newarray .int, 2) := by decide +kernel
theorem dX6_init_98 : decode cX6_init 98 = .ok (.putfield 58, 3) := by decide +kernel
theorem dX6_init_101 : decode cX6_init 101 = .ok (.aload_n 0, 1) := by decide +kernel
theorem dX6_init_102 : decode cX6_init 102 = .ok (.bipush 12, 2) := by decide +kernel
theorem dX6_init_104 : decode cX6_init 104 = .ok (.newarray .int, 2) := by decide +kernel
theorem dX6_init_106 : decode cX6_init 106 = .ok (.putfield 61, 3) := by decide +kernel
theorem dX6_init_109 : decode cX6_init 109 = .ok (.aload_n 0, 1) := by decide +kernel
theorem dX6_init_110 : decode cX6_init 110 = .ok (.iconst 0, 1) := by decide +kernel
theorem dX6_init_111 : decode cX6_init 111 = .ok (.putfield 64, 3) := by decide +kernel
theorem dX6_init_114 : decode cX6_init 114 = .ok (.iconst 0, 1) := by decide +kernel
theorem dX6_init_115 : decode cX6_init 115 = .ok (.istore_n 1, 1) := by decide +kernel
theorem dX6_init_116 : decode cX6_init 116 = .ok (.iload_n 1, 1) := by decide +kernel
theorem dX6_init_117 : decode cX6_init 117 = .ok (.iconst 5, 1) := by decide +kernel
theorem dX6_init_118 : decode cX6_init 118 = .ok (.if_icmp .ge 22, 3) := by decide +kernel
theorem dX6_init_121 : decode cX6_init 121 = .ok (.aload_n 0, 1) := by decide +kernel
theorem dX6_init_122 : decode cX6_init 122 = .ok (.getfield 11, 3) := by decide +kernel
theorem dX6_init_125 : decode cX6_init 125 = .ok (.iload_n 1, 1) := by decide +kernel
theorem dX6_init_126 : decode cX6_init 126 = .ok (.new 9, 3) := by decide +kernel
theorem dX6_init_129 : decode cX6_init 129 = .ok (.dup, 1) := by decide +kernel
theorem dX6_init_130 : decode cX6_init 130 = .ok (.invokespecial 67, 3) := by decide +kernel
theorem dX6_init_133 : decode cX6_init 133 = .ok (.aastore, 1) := by decide +kernel
theorem dX6_init_134 : decode cX6_init 134 = .ok (.iinc 1 1, 3) := by decide +kernel
theorem dX6_init_137 : decode cX6_init 137 = .ok (.goto (-21), 3) := by decide +kernel
theorem dX6_init_140 : decode cX6_init 140 = .ok (.aload_n 0, 1) := by decide +kernel
theorem dX6_init_141 : decode cX6_init 141 = .ok (.new 68, 3) := by decide +kernel
theorem dX6_init_144 : decode cX6_init 144 = .ok (.dup, 1) := by decide +kernel
theorem dX6_init_145 : decode cX6_init 145 = .ok (.aload_n 0, 1) := by decide +kernel
theorem dX6_init_146 : decode cX6_init 146 = .ok (.getfield 11, 3) := by decide +kernel
theorem dX6_init_149 : decode cX6_init 149 = .ok (.iconst 0, 1) := by decide +kernel
theorem dX6_init_150 : decode cX6_init 150 = .ok (.aaload, 1) := by decide +kernel
theorem dX6_init_151 : decode cX6_init 151 = .ok (.aload_n 0, 1) := by decide +kernel
theorem dX6_init_152 : decode cX6_init 152 = .ok (.getfield 22, 3) := by decide +kernel
theorem dX6_init_155 : decode cX6_init 155 = .ok (.invokespecial 70, 3) := by decide +kernel
theorem dX6_init_158 : decode cX6_init 158 = .ok (.putfield 73, 3) := by decide +kernel
theorem dX6_init_161 : decode cX6_init 161 = .ok (.aload_n 0, 1) := by decide +kernel
theorem dX6_init_162 : decode cX6_init 162 = .ok (.new 77, 3) := by decide +kernel
theorem dX6_init_165 : decode cX6_init 165 = .ok (.dup, 1) := by decide +kernel
theorem dX6_init_166 : decode cX6_init 166 = .ok (.aload_n 0, 1) := by decide +kernel
theorem dX6_init_167 : decode cX6_init 167 = .ok (.getfield 11, 3) := by decide +kernel
theorem dX6_init_170 : decode cX6_init 170 = .ok (.iconst 0, 1) := by decide +kernel
theorem dX6_init_171 : decode cX6_init 171 = .ok (.aaload, 1) := by decide +kernel
theorem dX6_init_172 : decode cX6_init 172 = .ok (.sipush 285, 3) := by decide +kernel
theorem dX6_init_175 : decode cX6_init 175 = .ok (.invokespecial 79, 3) := by decide +kernel
theorem dX6_init_178 : decode cX6_init 178 = .ok (.putfield 82, 3) := by decide +kernel
theorem dX6_init_181 : decode cX6_init 181 = .ok (.aload_n 0, 1) := by decide +kernel
theorem dX6_init_182 : decode cX6_init 182 = .ok (.new 77, 3) := by decide +kernel
theorem dX6_init_185 : decode cX6_init 185 = .ok (.dup, 1) := by decide +kernel
theorem dX6_init_186 : decode cX6_init 186 = .ok (.aload_n 0, 1) := by decide +kernel
theorem dX6_init_187 : decode cX6_init 187 = .ok (.getfield 11, 3) := by decide +kernel
theorem dX6_init_190 : decode cX6_init 190 = .ok (.iconst 0, 1) := by decide +kernel
theorem dX6_init_191 : decode cX6_init 191 = .ok (.aaload, 1) := by decide +kernel
theorem dX6_init_192 : decode cX6_init 192 = .ok (.sipush 250, 3) := by decide +kernel
theorem dX6_init_195 : decode cX6_init 195 = .ok (.invokespecial 79, 3) := by decide +kernel
theorem dX6_init_198 : decode cX6_init 198 = .ok (.putfield 86, 3) := by decide +kernel
theorem dX6_init_201 : decode cX6_init 201 = .ok (.aload_n 0, 1) := by decide +kernel
theorem dX6_init_202 : decode cX6_init 202 = .ok (.getfield 41, 3) := by decide +kernel
theorem dX6_init_205 : decode cX6_init 205 = .ok (.iconst (-1), 1) := by decide +kernel
theorem dX6_init_206 : decode cX6_init 206 = .ok (.invokestatic 89, 3) := by decide +kernel
theorem dX6_init_209 : decode cX6_init 209 = .ok (.aload_n 0, 1) := by decide +kernel
theorem dX6_init_210 : decode cX6_init 210 = .ok (.getfield 52, 3) := by decide +kernel
theorem dX6_init_213 : decode cX6_init 213 = .ok (.bipush (-9), 2) := by decide +kernel
theorem dX6_init_215 : decode cX6_init 215 = .ok (.invokestatic 89, 3) := by decide +kernel
theorem dX6_init_218 : decode cX6_init 218 = .ok (.return_, 1) := by decide +kernel
theorem dX7_init_0 : decode cX7_init 0 = .ok (.aload_n 0, 1) := by decide +kernel
theorem dX7_init_1 : decode cX7_init 1 = .ok (.invokespecial 1, 3) := by decide +kernel
theorem dX7_init_4 : decode cX7_init 4 = .ok (.aload_n 0, 1) := by decide +kernel
theorem dX7_init_5 : decode cX7_init 5 = .ok (.iconst 5, 1) := by decide +kernel
theorem dX7_init_6 : decode cX7_init 6 = .ok (.newarray .int, 2) := by decide +kernel
theorem dX7_init_8 : decode cX7_init 8 = .ok (.putfield 7, 3) := by decide +kernel
theorem dX7_init_11 : decode cX7_init 11 = .ok (.aload_n 0, 1) := by decide +kernel
theorem dX7_init_12 : decode cX7_init 12 = .ok (.iconst 5, 1) := by decide +kernel
theorem dX7_init_13 : decode cX7_init 13 = .ok (.newarray .int, 2) := by decide +kernel
theorem dX7_init_15 : decode cX7_init 15 = .ok (.putfield 13, 3) := by decide +kernel
theorem dX7_init_18 : decode cX7_init 18 = .ok (.aload_n 0, 1) := by decide +kernel
theorem dX7_init_19 : decode cX7_init 19 = .ok (.bipush 30, 2) := by decide +kernel
theorem dX7_init_21 : decode cX7_init 21 = .ok (.newarray .int, 2) := by decide +kernel
theorem dX7_init_23 : decode cX7_init 23 = .ok (.putfield 16, 3) := by decide +kernel
theorem dX7_init_26 : decode cX7_init 26 = .ok (.aload_n 0, 1) := by decide +kernel
theorem dX7_init_27 : decode cX7_init 27 = .ok (.bipush 30, 2) := by decide +kernel
theorem dX7_init_29 : decode cX7_init 29 = .ok (.newarray .int, 2) := by decide +kernel
theorem dX7_init_31 : decode cX7_init 31 = .ok (.putfield 19, 3) := by decide +kernel
theorem dX7_init_34 : decode cX7_init 34 = .ok (.aload_n 0, 1) := by decide +kernel
theorem dX7_init_35 : decode cX7_init 35 = .ok (.sipush 180, 3) := by decide +kernel
theorem dX7_init_38 : decode cX7_init 38 = .ok (.newarray .int, 2) := by decide +kernel
theorem dX7_init_40 : decode cX7_init 40 = .ok (.putfield 22, 3) := by decide +kernel
theorem dX7_init_43 : decode cX7_init 43 = .ok (.aload_n 0, 1) := by decide +kernel
theorem dX7_init_44 : decode cX7_init 44 = .ok (.bipush 40, 2) := by decide +kernel
theorem dX7_init_46 : decode cX7_init 46 = .ok (.newarray .int, 2) := by decide +kernel
theorem dX7_init_48 : decode cX7_init 48 = .ok (.putfield 25, 3) := by decide +kernel
theorem dX7_init_51 : decode cX7_init 51 = .ok (.aload_n 0, 1) := by decide +kernel
theorem dX7_init_52 : decode cX7_init 52 = .ok (.bipush 40, 2) := by decide +kernel
theorem dX7_init_54 : decode cX7_init 54 = .ok (.newarray .int, 2) := by decide +kernel
theorem dX7_init_56 : decode cX7_init 56 = .ok (.putfield 28, 3) := by decide +kernel
theorem dX7_init_59 : decode cX7_init 59 = .ok (.aload_n 0, 1) := by decide +kernel
theorem dX7_init_60 : decode cX7_init 60 = .ok (.bipush 40, 2) := by decide +kernel
theorem dX7_init_62 : decode cX7_init 62 = .ok (.newarray .int, 2) := by decide +kernel
theorem dX7_init_64 : decode cX7_init 64 = .ok (.putfield 31, 3) := by decide +kernel
theorem dX7_init_67 : decode cX7_init 67 = .ok (.aload_n 0, 1) := by decide +kernel
theorem dX7_init_68 : decode cX7_init 68 = .ok (.sipush 240, 3) := by decide +kernel
theorem dX7_init_71 : decode cX7_init 71 = .ok (.newarray .int, 2) := by decide +kernel
theorem dX7_init_73 : decode cX7_init 73 = .ok (.putfield 34, 3) := by decide +kernel
theorem dX7_init_76 : decode cX7_init 76 = .ok (.aload_n 0, 1) := by decide +kernel
theorem dX7_init_77 : decode cX7_init 77 = .ok (.sipush 240, 3) := by decide +kernel
theorem dX7_init_80 : decode cX7_init 80 = .ok (.newarray .int, 2) := by decide +kernel
theorem dX7_init_82 : decode cX7_init 82 = .ok (.putfield 37, 3) := by decide +kernel
theorem dX7_init_85 : decode cX7_init 85 = .ok (.aload_n 0, 1) := by decide +kernel
theorem dX7_init_86 : decode cX7_init 86 = .ok (.iconst 5, 1) := by decide +kernel
theorem dX7_init_87 : decode cX7_init 87 = .ok (.newarray .int, 2) := by decide +kernel
theorem dX7_init_89 : decode cX7_init 89 = .ok (.putfield 40, 3) := by decide +kernel
theorem dX7_init_92 : decode cX7_init 92 = .ok (.aload_n 0, 1) := by decide +kernel
theorem dX7_init_93 : decode cX7_init 93 = .ok (.iconst 1, 1) := by decide +kernel
theorem dX7_init_94 : decode cX7_init 94 = .ok (.putfield 43, 3) := by decide +kernel
theorem dX7_init_97 : decode cX7_init 97 = .ok (.aload_n 0, 1) := by decide +kernel
theorem dX7_init_98 : decode cX7_init 98 = .ok (.iconst 5, 1) := by decide +kernel
theorem dX7_init_99 : decode cX7_init 99 = .ok (.newarray .int, 2) := by decide +kernel
theorem dX7_init_101 : decode cX7_init 101 = .ok (.putfield 47, 3) := by decide +kernel
theorem dX7_init_104 : decode cX7_init 104 = .ok (.aload_n 0, 1) := by decide +kernel
theorem dX7_init_105 : decode cX7_init 105 = .ok (.sipush 200, 3) := by decide +kernel
theorem dX7_init_108 : decode cX7_init 108 = .ok (.newarray .int, 2) := by decide +kernel
theorem dX7_init_110 : decode cX7_init 110 = .ok (.putfield 50, 3) := by decide +kernel
theorem dX7_init_113 : decode cX7_init 113 = .ok (.aload_n 0, 1) := by decide +kernel
theorem dX7_init_114 : decode cX7_init 114 = .ok (.iconst 5, 1) := by decide +kernel
theorem dX7_init_115 : decode cX7_init 115 = .ok (.newarray .int, 2) := by decide +kernel
theorem dX7_init_117 : decode cX7_init 117 = .ok (.putfield 53, 3) := by decide +kernel
theorem dX7_init_120 : decode cX7_init 120 = .ok (.aload_n 0, 1) := by decide +kernel
theorem dX7_init_121 : decode cX7_init 121 = .ok (.iconst 5, 1) := by decide +kernel
theorem dX7_init_122 : decode cX7_init 122 = .ok (.newarray .int, 2) := by decide +kernel
theorem dX7_init_124 : decode cX7_init 124 = .ok (.putfield 56, 3) := by decide +kernel
theorem dX7_init_127 : decode cX7_init 127 = .ok (.aload_n 0, 1) := by decide +kernel
theorem dX7_init_128 : decode cX7_init 128 = .ok (.iconst 5, 1) := by decide +kernel
theorem dX7_init_129 : decode cX7_init 129 = .ok (.newarray .int, 2) := by decide +kernel
theorem dX7_init_131 : decode cX7_init 131 = .ok (.putfield 59, 3) := by decide +kernel
theorem dX7_init_134 : decode cX7_init 134 = .ok (.aload_n 0, 1) := by decide +kernel
theorem dX7_init_135 : decode cX7_init 135 = .ok (.bipush (-9), 2) := by decide +kernel
theorem dX7_init_137 : decode cX7_init 137 = .ok (.putfield 62, 3) := by decide +kernel
theorem dX7_init_140 : decode cX7_init 140 = .ok (.aload_n 0, 1) := by decide +kernel
theorem dX7_init_141 : decode cX7_init 141 = .ok (.iconst 5, 1) := by decide +kernel
theorem dX7_init_142 : decode cX7_init 142 = .ok (.newarray .int, 2) := by decide +kernel
theorem dX7_init_144 : decode cX7_init 144 = .ok (.putfield 65, 3) := by decide +kernel
theorem dX7_init_147 : decode cX7_init 147 = .ok (.aload_n 0, 1) := by decide +kernel
theorem dX7_init_148 : decode cX7_init 148 = .ok (.iconst 5, 1) := by decide +kernel
theorem dX7_init_149 : decode cX7_init 149 = .ok (.newarray .int, 2) := by decide +kernel
theorem dX7_init_151 : decode cX7_init 151 = .ok (.putfield 68, 3) := by decide +kernel
theorem dX7_init_154 : decode cX7_init 154 = .ok (.aload_n 0, 1) := by decide +kernel
theorem dX7_init_155 : decode cX7_init 155 = .ok (.iconst 5, 1) := by decide +kernel
theorem dX7_init_156 : decode cX7_init 156 = .ok (.newarray .int, 2) := by decide +kernel
theorem dX7_init_158 : decode cX7_init 158 = .ok (.putfield 71, 3) := by decide +kernel
theorem dX7_init_161 : decode cX7_init 161 = .ok (.aload_n 0, 1) := by decide +kernel
theorem dX7_init_162 : decode cX7_init 162 = .ok (.sipush 2000, 3) := by decide +kernel
theorem dX7_init_165 : decode cX7_init 165 = .ok (.newarray .int, 2) := by decide +kernel
theorem dX7_init_167 : decode cX7_init 167 = .ok (.putfield 74, 3) := by decide +kernel
theorem dX7_init_170 : decode cX7_init 170 = .ok (.aload_n 0, 1) := by decide +kernel
theorem dX7_init_171 : decode cX7_init 171 = .ok (.sipush 12000, 3) := by decide +kernel
theorem dX7_init_174 : decode cX7_init 174 = .ok (.newarray .int, 2) := by decide +kernel
theorem dX7_init_176 : decode cX7_init 176 = .ok (.putfield 77, 3) := by decide +kernel
theorem dX7_init_179 : decode cX7_init 179 = .ok (.aload_n 0, 1) := by decide +kernel
theorem dX7_init_180 : decode cX7_init 180 = .ok (.sipush 2000, 3) := by decide +kernel
theorem dX7_init_183 : decode cX7_init 183 = .ok (.newarray .int, 2) := by decide +kernel
theorem dX7_init_185 : decode cX7_init 185 = .ok (.putfield 80, 3) := by decide +kernel
theorem dX7_init_188 : decode cX7_init 188 = .ok (.aload_n 0, 1) := by decide +kernel
theorem dX7_init_189 : decode cX7_init 189 = .ok (.sipush 2000, 3) := by decide +kernel
theorem dX7_init_192 : decode cX7_init 192 = .ok (.newarray .int, 2) := by decide +kernel
theorem dX7_init_194 : decode cX7_init 194 = .ok (.putfield 83, 3) := by decide +kernel
theorem dX7_init_197 : decode cX7_init 197 = .ok (.aload_n 0, 1) := by decide +kernel
theorem dX7_init_198 : decode cX7_init 198 = .ok (.sipush 2000, 3) := by decide +kernel
theorem dX7_init_201 : decode cX7_init 201 = .ok (.newarray .int, 2) := by decide +kernel
theorem dX7_init_203 : decode cX7_init 203 = .ok (.putfield 86, 3) := by decide +kernel
theorem dX7_init_206 : decode cX7_init 206 = .ok (.aload_n 0, 1) := by decide +kernel
theorem dX7_init_207 : decode cX7_init 207 = .ok (.sipush 2000, 3) := by decide +kernel
theorem dX7_init_210 : decode cX7_init 210 = .ok (.newarray .int, 2) := by decide +kernel
theorem dX7_init_212 : decode cX7_init 212 = .ok (.putfield 89, 3) := by decide +kernel
theorem dX7_init_215 : decode cX7_init 215 = .ok (.aload_n 0, 1) := by decide +kernel
theorem dX7_init_216 : decode cX7_init 216 = .ok (.sipush 2000, 3) := by decide +kernel
theorem dX7_init_219 : decode cX7_init 219 = .ok (.newarray .boolean, 2) := by decide +kernel
theorem dX7_init_221 : decode cX7_init 221 = .ok (.putfield 92, 3) := by decide +kernel
theorem dX7_init_224 : decode cX7_init 224 = .ok (.aload_n 0, 1) := by decide +kernel
theorem dX7_init_225 : decode cX7_init 225 = .ok (.sipush 2000, 3) := by decide +kernel
theorem dX7_init_228 : decode cX7_init 228 = .ok (.newarray .boolean, 2) := by decide +kernel
theorem dX7_init_230 : decode cX7_init 230 = .ok (.putfield 96, 3) := by decide +kernel
theorem dX7_init_233 : decode cX7_init 233 = .ok (.aload_n 0, 1) := by decide +kernel
theorem dX7_init_234 : decode cX7_init 234 = .ok (.sipush 250, 3) := by decide +kernel
theorem dX7_init_237 : decode cX7_init 237 = .ok (.newarray .int, 2) := by decide +kernel
theorem dX7_init_239 : decode cX7_init 239 = .ok (.putfield 99, 3) := by decide +kernel
theorem dX7_init_242 : decode cX7_init 242 = .ok (.aload_n 0, 1) := by decide +kernel
theorem dX7_init_243 : decode cX7_init 243 = .ok (.sipush 12000, 3) := by decide +kernel
theorem dX7_init_246 : decode cX7_init 246 = .ok (.newarray .int, 2) := by decide +kernel
theorem dX7_init_248 : decode cX7_init 248 = .ok (.putfield 102, 3) := by decide +kernel
theorem dX7_init_251 : decode cX7_init 251 = .ok (.aload_n 0, 1) := by decide +kernel
theorem dX7_init_252 : decode cX7_init 252 = .ok (.sipush 12000, 3) := by decide +kernel
theorem dX7_init_255 : decode cX7_init 255 = .ok (.newarray .int, 2) := by decide +kernel
theorem dX7_init_257 : decode cX7_init 257 = .ok (.putfield 105, 3) := by decide +kernel
theorem dX7_init_260 : decode cX7_init 260 = .ok (.aload_n 0, 1) := by decide +kernel
theorem dX7_init_261 : decode cX7_init 261 = .ok (.sipush 2000, 3) := by decide +kernel
theorem dX7_init_264 : decode cX7_init 264 = .ok (.newarray .int, 2) := by decide +kernel
theorem dX7_init_266 : decode cX7_init 266 = .ok (.putfield 108, 3) := by decide +kernel
theorem dX7_init_269 : decode cX7_init 269 = .ok (.aload_n 0, 1) := by decide +kernel
theorem dX7_init_270 : decode cX7_init 270 = .ok (.bipush 30, 2) := by decide +kernel
theorem dX7_init_272 : decode cX7_init 272 = .ok (.newarray .int, 2) := by decide +kernel
theorem dX7_init_274 : decode cX7_init 274 = .ok (.putfield 111, 3) := by decide +kernel
theorem dX7_init_277 : decode cX7_init 277 = .ok (.aload_n 0, 1) := by decide +kernel
theorem dX7_init_278 : decode cX7_init 278 = .ok (.iconst 5, 1) := by decide +kernel
theorem dX7_init_279 : decode cX7_init 279 = .ok (.newarray .boolean, 2) := by decide +kernel
theorem dX7_init_281 : decode cX7_init 281 = .ok (.putfield 114, 3) := by decide +kernel
theorem dX7_init_284 : decode cX7_init 284 = .ok (.aload_n 0, 1) := by decide +kernel
theorem dX7_init_285 : decode cX7_init 285 = .ok (.iconst 5, 1) := by decide +kernel
theorem dX7_init_286 : decode cX7_init 286 = .ok (.newarray .boolean, 2) := by decide +kernel
theorem dX7_init_288 : decode cX7_init 288 = .ok (.putfield 117, 3) := by decide +kernel
theorem dX7_init_291 : decode cX7_init 291 = .ok (.aload_n 0, 1) := by decide +kernel
theorem dX7_init_292 : decode cX7_init 292 = .ok (.bipush 30, 2) := by decide +kernel
theorem dX7_init_294 : decode cX7_init 294 = .ok (.newarray .int, 2) := by decide +kernel
theorem dX7_init_296 : decode cX7_init 296 = .ok (.putfield 120, 3) := by decide +kernel
theorem dX7_init_299 : decode cX7_init 299 = .ok (.aload_n 0, 1) := by decide +kernel
theorem dX7_init_300 : decode cX7_init 300 = .ok (.sipush 250, 3) := by decide +kernel
theorem dX7_init_303 : decode cX7_init 303 = .ok (.newarray .int, 2) := by decide +kernel
theorem dX7_init_305 : decode cX7_init 305 = .ok (.putfield 123, 3) := by decide +kernel
theorem dX7_init_308 : decode cX7_init 308 = .ok (.aload_n 0, 1) := by decide +kernel
theorem dX7_init_309 : decode cX7_init 309 = .ok (.sipush 1500, 3) := by decide +kernel
theorem dX7_init_312 : decode cX7_init 312 = .ok (.newarray .int, 2) := by decide +kernel
theorem dX7_init_314 : decode cX7_init 314 = .ok (.putfield 126, 3) := by decide +kernel
theorem dX7_init_317 : decode cX7_init 317 = .ok (.aload_n 0, 1) := by decide +kernel
theorem dX7_init_318 : decode cX7_init 318 = .ok (.sipush 250, 3) := by decide +kernel
theorem dX7_init_321 : decode cX7_init 321 = .ok (.newarray .int, 2) := by decide +kernel
theorem dX7_init_323 : decode cX7_init 323 = .ok (.putfield 129, 3) := by decide +kernel
theorem dX7_init_326 : decode cX7_init 326 = .ok (.aload_n 0, 1) := by decide +kernel
theorem dX7_init_327 : decode cX7_init 327 = .ok (.sipush 250, 3) := by decide +kernel
theorem dX7_init_330 : decode cX7_init 330 = .ok (.newarray .int, 2) := by decide +kernel
theorem dX7_init_332 : decode cX7_init 332 = .ok (.putfield 132, 3) := by decide +kernel
theorem dX7_init_335 : decode cX7_init 335 = .ok (.aload_n 0, 1) := by decide +kernel
theorem dX7_init_336 : decode cX7_init 336 = .ok (.sipush 250, 3) := by decide +kernel
theorem dX7_init_339 : decode cX7_init 339 = .ok (.newarray .int, 2) := by decide +kernel
theorem dX7_init_341 : decode cX7_init 341 = .ok (.putfield 135, 3) := by decide +kernel
theorem dX7_init_344 : decode cX7_init 344 = .ok (.aload_n 0, 1) := by decide +kernel
theorem dX7_init_345 : decode cX7_init 345 = .ok (.sipush 250, 3) := by decide +kernel
theorem dX7_init_348 : decode cX7_init 348 = .ok (.newarray .int, 2) := by decide +kernel
theorem dX7_init_350 : decode cX7_init 350 = .ok (.putfield 138, 3) := by decide +kernel
theorem dX7_init_353 : decode cX7_init 353 = .ok (.aload_n 0, 1) := by decide +kernel
theorem dX7_init_354 : decode cX7_init 354 = .ok (.sipush 1500, 3) := by decide +kernel
theorem dX7_init_357 : decode cX7_init 357 = .ok (.newarray .int, 2) := by decide +kernel
theorem dX7_init_359 : decode cX7_init 359 = .ok (.putfield 141, 3) := by decide +kernel
theorem dX7_init_362 : decode cX7_init 362 = .ok (.aload_n 0, 1) := by decide +kernel
theorem dX7_init_363 : decode cX7_init 363 = .ok (.sipush 1500, 3) := by decide +kernel
theorem dX7_init_366 : decode cX7_init 366 = .ok (.newarray .int, 2) := by decide +kernel
theorem dX7_init_368 : decode cX7_init 368 = .ok (.putfield 144, 3) := by decide +kernel
theorem dX7_init_371 : decode cX7_init 371 = .ok (.aload_n 0, 1) := by decide +kernel
theorem dX7_init_372 : decode cX7_init 372 = .ok (.bipush (-9), 2) := by decide +kernel
theorem dX7_init_374 : decode cX7_init 374 = .ok (.putfield 147, 3) := by decide +kernel
theorem dX7_init_377 : decode cX7_init 377 = .ok (.aload_n 0, 1) := by decide +kernel
theorem dX7_init_378 : decode cX7_init 378 = .ok (.bipush 6, 2) := by decide +kernel
theorem dX7_init_380 : decode cX7_init 380 = .ok (.newarray .int, 2) := by decide +kernel
theorem dX7_init_382 : decode cX7_init 382 = .ok (.putfield 150, 3) := by decide +kernel
theorem dX7_init_385 : decode cX7_init 385 = .ok (.aload_n 0, 1) := by decide +kernel
theorem dX7_init_386 : decode cX7_init 386 = .ok (.bipush (-9), 2) := by decide +kernel
theorem dX7_init_388 : decode cX7_init 388 = .ok (.putfield 153, 3) := by decide +kernel
theorem dX7_init_391 : decode cX7_init 391 = .ok (.aload_n 0, 1) := by decide +kernel
theorem dX7_init_392 : decode cX7_init 392 = .ok (.bipush 6, 2) := by decide +kernel
theorem dX7_init_394 : decode cX7_init 394 = .ok (.newarray .int, 2) := by decide +kernel
theorem dX7_init_396 : decode cX7_init 396 = .ok (.putfield 156, 3) := by decide +kernel
theorem dX7_init_399 : decode cX7_init 399 = .ok (.aload_n 0, 1) := by decide +kernel
theorem dX7_init_400 : decode cX7_init 400 = .ok (.bipush 6, 2) := by decide +kernel
theorem dX7_init_402 : decode cX7_init 402 = .ok (.newarray .int, 2) := by decide +kernel
theorem dX7_init_404 : decode cX7_init 404 = .ok (.putfield 159, 3) := by decide +kernel
theorem dX7_init_407 : decode cX7_init 407 = .ok (.aload_n 0, 1) := by decide +kernel
theorem dX7_init_408 : decode cX7_init 408 = .ok (.iconst 3, 1) := by decide +kernel
theorem dX7_init_409 : decode cX7_init 409 = .ok (.newarray .int, 2) := by decide +kernel
theorem dX7_init_411 : decode cX7_init 411 = .ok (.putfield 162, 3) := by decide +kernel
theorem dX7_init_414 : decode cX7_init 414 = .ok (.aload_n 0, 1) := by decide +kernel
theorem dX7_init_415 : decode cX7_init 415 = .ok (.sipush 2000, 3) := by decide +kernel
theorem dX7_init_418 : decode cX7_init 418 = .ok (.newarray .int, 2) := by decide +kernel
theorem dX7_init_420 : decode cX7_init 420 = .ok (.putfield 165, 3) := by decide +kernel
theorem dX7_init_423 : decode cX7_init 423 = .ok (.aload_n 0, 1) := by decide +kernel
theorem dX7_init_424 : decode cX7_init 424 = .ok (.sipush 12000, 3) := by decide +kernel
theorem dX7_init_427 : decode cX7_init 427 = .ok (.newarray .int, 2) := by decide +kernel
theorem dX7_init_429 : decode cX7_init 429 = .ok (.putfield 168, 3) := by decide +kernel
theorem dX7_init_432 : decode cX7_init 432 = .ok (.aload_n 0, 1) := by decide +kernel
theorem dX7_init_433 : decode cX7_init 433 = .ok (.sipush 2000, 3) := by decide +kernel
theorem dX7_init_436 : decode cX7_init 436 = .ok (.newarray .int, 2) := by decide +kernel
theorem dX7_init_438 : decode cX7_init 438 = .ok (.putfield 171, 3) := by decide +kernel
theorem dX7_init_441 : decode cX7_init 441 = .ok (.aload_n 0, 1) := by decide +kernel
theorem dX7_init_442 : decode cX7_init 442 = .ok (.sipush 2000, 3) := by decide +kernel
theorem dX7_init_445 : decode cX7_init 445 = .ok (.newarray .int, 2) := by decide +kernel
theorem dX7_init_447 : decode cX7_init 447 = .ok (.putfield 174, 3) := by decide +kernel
theorem dX7_init_450 : decode cX7_init 450 = .ok (.aload_n 0, 1) := by decide +kernel
theorem dX7_init_451 : decode cX7_init 451 = .ok (.sipush 2000, 3) := by decide +kernel
theorem dX7_init_454 : decode cX7_init 454 = .ok (.newarray .int, 2) := by decide +kernel
theorem dX7_init_456 : decode cX7_init 456 = .ok (.putfield 177, 3) := by decide +kernel
theorem dX7_init_459 : decode cX7_init 459 = .ok (.aload_n 0, 1) := by decide +kernel
theorem dX7_init_460 : decode cX7_init 460 = .ok (.sipush 2000, 3) := by decide +kernel
theorem dX7_init_463 : decode cX7_init 463 = .ok (.newarray .int, 2) := by decide +kernel
theorem dX7_init_465 : decode cX7_init 465 = .ok (.putfield 180, 3) := by decide +kernel
theorem dX7_init_468 : decode cX7_init 468 = .ok (.aload_n 0, 1) := by decide +kernel
theorem dX7_init_469 : decode cX7_init 469 = .ok (.sipush 2000, 3) := by decide +kernel
theorem dX7_init_472 : decode cX7_init 472 = .ok (.newarray .boolean, 2) := by decide +kernel
theorem dX7_init_474 : decode cX7_init 474 = .ok (.putfield 183, 3) := by decide +kernel
theorem dX7_init_477 : decode cX7_init 477 = .ok (.aload_n 0, 1) := by decide +kernel
theorem dX7_init_478 : decode cX7_init 478 = .ok (.sipush 2000, 3) := by decide +kernel
theorem dX7_init_481 : decode cX7_init 481 = .ok (.newarray .boolean, 2) := by decide +kernel
theorem dX7_init_483 : decode cX7_init 483 = .ok (.putfield 186, 3) := by decide +kernel
theorem dX7_init_486 : decode cX7_init 486 = .ok (.aload_n 0, 1) := by decide +kernel
theorem dX7_init_487 : decode cX7_init 487 = .ok (.sipush 250, 3) := by decide +kernel
theorem dX7_init_490 : decode cX7_init 490 = .ok (.newarray .int, 2) := by decide +kernel
theorem dX7_init_492 : decode cX7_init 492 = .ok (.putfield 189, 3) := by decide +kernel
theorem dX7_init_495 : decode cX7_init 495 = .ok (.aload_n 0, 1) := by decide +kernel
theorem dX7_init_496 : decode cX7_init 496 = .ok (.sipush 12000, 3) := by decide +kernel
theorem dX7_init_499 : decode cX7_init 499 = .ok (.newarray .int, 2) := by decide +kernel
theorem dX7_init_501 : decode cX7_init 501 = .ok (.putfield 192, 3) := by decide +kernel
theorem dX7_init_504 : decode cX7_init 504 = .ok (.aload_n 0, 1) := by decide +kernel
theorem dX7_init_505 : decode cX7_init 505 = .ok (.sipush 12000, 3) := by decide +kernel
theorem dX7_init_508 : decode cX7_init 508 = .ok (.newarray .int, 2) := by decide +kernel
theorem dX7_init_510 : decode cX7_init 510 = .ok (.putfield 195, 3) := by decide +kernel
theorem dX7_init_513 : decode cX7_init 513 = .ok (.aload_n 0, 1) := by decide +kernel
theorem dX7_init_514 : decode cX7_init 514 = .ok (.sipush 2000, 3) := by decide +kernel
theorem dX7_init_517 : decode cX7_init 517 = .ok (.newarray .int, 2) := by decide +kernel
theorem dX7_init_519 : decode cX7_init 519 = .ok (.putfield 198, 3) := by decide +kernel
theorem dX7_init_522 : decode cX7_init 522 = .ok (.return_, 1) := by decide +kernel
