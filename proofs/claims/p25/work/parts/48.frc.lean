theorem tr58 {T : Nat} (h : TrAt T) : T + 11 < 58 := by rcases h with h | h | h <;> omega
theorem fr_J7_fill_53178 (A : Nat → Nat → Int32) (s0 : Nat) (a1 : Int32) (A0 : Nat → Nat → Int32) (h : f_J7_fill_53178 A s0 a1 = some A0) : Fc pC A A0 := by
  unfold f_J7_fill_53178 at h
  obtain ⟨⟨h1, h2, h3⟩, h⟩ := gk h
  cases h
  intro j hj
  have hj : 318 ≤ j := hj
  funext b
  unfold fil
  rw [if_neg (fun e => by omega)]
theorem fr_X0_look (I : Nat → Nat → Int32) (A : Nat → Nat → Int32) (o s1 s2 : Nat) (a3 a4 : Int32) (I0 : Nat → Nat → Int32) (h : f_X0_look I A o s1 s2 a3 a4 = some I0) : Fc pC I I0 := by
  unfold f_X0_look at h
  obtain ⟨h1, h⟩ := gk h
  have ho := h1.1.1
  cases h
  have hn : ¬ pC o := fun e => by have e : 318 ≤ o := e; omega
  exact Fc_up (Fc_up (Fc_up Fc_rf hn) hn) hn
theorem fr_X5_copyValues (A : Nat → Nat → Int32) (L : Nat → Nat → Int64) (o : Nat) (a1 : Int32) (s2 : Nat) (a3 : Int32) (A0 : Nat → Nat → Int32) (h : f_X5_copyValues A L o a1 s2 a3 = some A0) : Fc pC A A0 := by
  unfold f_X5_copyValues at h
  obtain ⟨⟨h1, h2, h3, h4, h5, h6, h7, h8, h9, h10⟩, h⟩ := gk h
  cases h
  intro j hj
  have hj : 318 ≤ j := hj
  funext b
  unfold cpy
  rw [if_neg (fun e => by omega)]
theorem fr_X5_take (I : Nat → Nat → Int32) (G : Nat → Nat → Nat) (A : Nat → Nat → Int32) (o : Nat) (a1 : Int32) (I0 : Nat → Nat → Int32) (A0 : Nat → Nat → Int32) (h : f_X5_take I G A o a1 = some (I0, A0)) : Fc pC I I0 ∧ Fc pC A A0 := by
  unfold f_X5_take at h
  obtain ⟨h1, h⟩ := gk h
  have ho := tr58 h1.1
  cases h
  refine ⟨Fc_up Fc_rf (fun e => by have e : 318 ≤ o := e; omega), ?_⟩
  intro j hj
  have hj : 318 ≤ j := hj
  funext b
  rw [rea_j (by omega), tkA_j (by omega) (by omega)]
set_option maxHeartbeats 4000000 in
set_option maxRecDepth 100000 in
theorem fr_X6_grant (I : Nat → Nat → Int32) (a1 : Int32) (r0 : Int32) (I0 : Nat → Nat → Int32) (h : f_X6_grant I a1 = some (r0, I0)) : Fc pC I I0 := by
  have fI : Fc pC I I := Fc_rf
  rw [f_X6_grant] at h
  obtain ⟨I1, eI1, h⟩ := bd_e h
  have fI1 : Fc pC I I1 := by rw [eI1]; exact Fc_up fI (show ¬ 318 ≤ 0 by decide)
  cases h; exact fI1
set_option maxHeartbeats 4000000 in
set_option maxRecDepth 100000 in
theorem fr_X6_refuse (I : Nat → Nat → Int32) (a1 : Int32) (r0 : Int32) (I0 : Nat → Nat → Int32) (h : f_X6_refuse I a1 = some (r0, I0)) : Fc pC I I0 := by
  have fI : Fc pC I I := Fc_rf
  rw [f_X6_refuse] at h
  obtain ⟨I1, eI1, h⟩ := bd_e h
  have fI1 : Fc pC I I1 := by rw [eI1]; exact Fc_up fI (show ¬ 318 ≤ 0 by decide)
  cases h; exact fI1
set_option maxHeartbeats 4000000 in
set_option maxRecDepth 100000 in
theorem fr_X6_about (I : Nat → Nat → Int32) (A : Nat → Nat → Int32) (a1 : Int32) (a2 : Int32) (a3 : Int32) (r0 : Int32) (I0 : Nat → Nat → Int32) (h : f_X6_about I A a1 a2 a3 = some (r0, I0)) : Fc pC I I0 := by
  have fI : Fc pC I I := Fc_rf
  have fA : Fc pC A A := Fc_rf
  rw [f_X6_about] at h
  obtain ⟨r1, hc2, h⟩ := Option.bind_eq_some_iff.mp h
  by_cases c_3 : r1 = 0
  · have h := ip c_3 h
    obtain ⟨⟨r4, I5⟩, hc6, h⟩ := Option.bind_eq_some_iff.mp h
    have fI5 : Fc pC I I5 := Fc_tr fI (fr_X6_refuse I (-1) r4 I5 hc6)
    cases h; exact fI5
  · have h := iN c_3 h
    obtain ⟨r7, hc8, h⟩ := Option.bind_eq_some_iff.mp h
    by_cases c_9 : r7 = 0
    · have h := ip c_9 h
      obtain ⟨⟨r55, I56⟩, hc57, h⟩ := Option.bind_eq_some_iff.mp h
      have fI56 : Fc pC I I56 := Fc_tr fI (fr_X6_refuse I (-1) r55 I56 hc57)
      cases h; exact fI56
    · have h := iN c_9 h
      obtain ⟨hn10, h⟩ := gk h
      by_cases c_11 : a2 = 0
      · have h := ip c_11 h
        obtain ⟨hk51, h⟩ := gk h
        obtain ⟨⟨r52, I53⟩, hc54, h⟩ := Option.bind_eq_some_iff.mp h
        have fI53 : Fc pC I I53 := Fc_tr fI (fr_X6_grant I (I (58 + 52 * a1.toNatClampNeg) 0) r52 I53 hc54)
        cases h; exact fI53
      · have h := iN c_11 h
        by_cases c_12 : a2 = 1
        · have h := ip c_12 h
          obtain ⟨hk47, h⟩ := gk h
          obtain ⟨⟨r48, I49⟩, hc50, h⟩ := Option.bind_eq_some_iff.mp h
          have fI49 : Fc pC I I49 := Fc_tr fI (fr_X6_grant I (I (58 + 52 * a1.toNatClampNeg) 1) r48 I49 hc50)
          cases h; exact fI49
        · have h := iN c_12 h
          by_cases c_13 : 4 < a2
          · have h := ip c_13 h
            obtain ⟨hk14, h⟩ := gk h
            obtain ⟨r15, hc16, h⟩ := Option.bind_eq_some_iff.mp h
            by_cases c_17 : r15 = 0
            · have h := ip c_17 h
              obtain ⟨⟨r29, I30⟩, hc31, h⟩ := Option.bind_eq_some_iff.mp h
              have fI30 : Fc pC I I30 := Fc_tr fI (fr_X6_refuse I (-1) r29 I30 hc31)
              cases h; exact fI30
            · have h := iN c_17 h
              by_cases c_18 : a2 = 5
              · have h := ip c_18 h
                obtain ⟨hk24, h⟩ := gk h
                obtain ⟨hn25, h⟩ := gk h
                obtain ⟨⟨r26, I27⟩, hc28, h⟩ := Option.bind_eq_some_iff.mp h
                have fI27 : Fc pC I I27 := Fc_tr fI (fr_X6_grant I (A (58 + 52 * a1.toNatClampNeg + 1) a3.toNatClampNeg) r26 I27 hc28)
                cases h; exact fI27
              · have h := iN c_18 h
                obtain ⟨hk19, h⟩ := gk h
                obtain ⟨hn20, h⟩ := gk h
                obtain ⟨⟨r21, I22⟩, hc23, h⟩ := Option.bind_eq_some_iff.mp h
                have fI22 : Fc pC I I22 := Fc_tr fI (fr_X6_grant I (A (58 + 52 * a1.toNatClampNeg + 2) a3.toNatClampNeg) r21 I22 hc23)
                cases h; exact fI22
          · have h := iN c_13 h
            obtain ⟨hk32, h⟩ := gk h
            obtain ⟨r33, hc34, h⟩ := Option.bind_eq_some_iff.mp h
            by_cases c_35 : r33 = 0
            · have h := ip c_35 h
              obtain ⟨⟨r36, I37⟩, hc38, h⟩ := Option.bind_eq_some_iff.mp h
              have fI37 : Fc pC I I37 := Fc_tr fI (fr_X6_refuse I (-1) r36 I37 hc38)
              cases h; exact fI37
            · have h := iN c_35 h
              obtain ⟨hk39, h⟩ := gk h
              obtain ⟨hn40, h⟩ := gk h
              obtain ⟨hk41, h⟩ := gk h
              obtain ⟨r42, hc43, h⟩ := Option.bind_eq_some_iff.mp h
              obtain ⟨⟨r44, I45⟩, hc46, h⟩ := Option.bind_eq_some_iff.mp h
              have fI45 : Fc pC I I45 := Fc_tr fI (fr_X6_grant I r42 r44 I45 hc46)
              cases h; exact fI45
set_option maxHeartbeats 4000000 in
set_option maxRecDepth 100000 in
theorem fr_X6_ask (I : Nat → Nat → Int32) (A : Nat → Nat → Int32) (a1 : Int32) (r0 : Int32) (I0 : Nat → Nat → Int32) (A0 : Nat → Nat → Int32) (h : f_X6_ask I A a1 = some (r0, I0, A0)) : Fc pC I I0 ∧ Fc pC A A0 := by
  have fI : Fc pC I I := Fc_rf
  have fA : Fc pC A A := Fc_rf
  rw [f_X6_ask] at h
  obtain ⟨r1, hc2, h⟩ := Option.bind_eq_some_iff.mp h
  by_cases c_3 : r1 = 0
  · have h := ip c_3 h
    cases h; exact ⟨fI, fA⟩
  · have h := iN c_3 h
    obtain ⟨I4, eI4, h⟩ := bd_e h
    have fI4 : Fc pC I I4 := by rw [eI4]; exact Fc_up fI (show ¬ 318 ≤ 0 by decide)
    obtain ⟨hn5, h⟩ := gk h
    obtain ⟨hk6, h⟩ := gk h
    obtain ⟨I7, eI7, h⟩ := bd_e h
    have fI7 : Fc pC I I7 := by rw [eI7]; exact Fc_up fI4 (show ¬ 318 ≤ 0 by decide)
    obtain ⟨I8, eI8, h⟩ := bd_e h
    have fI8 : Fc pC I I8 := by rw [eI8]; exact Fc_up fI7 (show ¬ 318 ≤ 0 by decide)
    obtain ⟨A9, hc10, h⟩ := Option.bind_eq_some_iff.mp h
    have fA9 : Fc pC A A9 := Fc_tr fA (fr_J7_fill_53178 A 18 (-1) A9 hc10)
    cases h; exact ⟨fI8, fA9⟩
set_option maxHeartbeats 4000000 in
set_option maxRecDepth 100000 in
theorem fr_X1_change (I : Nat → Nat → Int32) (o : Nat) (I0 : Nat → Nat → Int32) (h : f_X1_change I o = some I0) : Fc pC I I0 := by
  have fI : Fc pC I I := Fc_rf
  rw [f_X1_change] at h
  obtain ⟨hk1, h⟩ := gk h
  obtain ⟨I2, eI2, h⟩ := bd_e h
  have fI2 : Fc pC I I2 := by rw [eI2]; exact Fc_up fI (Nat.not_le.mpr hk1.1)
  obtain ⟨I3, eI3, h⟩ := bd_e h
  have fI3 : Fc pC I I3 := by rw [eI3]; exact Fc_up fI2 (Nat.not_le.mpr hk1.1)
  cases h; exact fI3
set_option maxHeartbeats 4000000 in
set_option maxRecDepth 100000 in
theorem fr_X1_setCost (I : Nat → Nat → Int32) (A : Nat → Nat → Int32) (o : Nat) (a1 : Int32) (a2 : Int32) (a3 : Int32) (r0 : Int32) (I0 : Nat → Nat → Int32) (A0 : Nat → Nat → Int32) (h : f_X1_setCost I A o a1 a2 a3 = some (r0, I0, A0)) : Fc pC I I0 ∧ Fc pC A A0 := by
  have fI : Fc pC I I := Fc_rf
  have fA : Fc pC A A := Fc_rf
  rw [f_X1_setCost] at h
  obtain ⟨hk1, h⟩ := gk h
  obtain ⟨I2, hc3, h⟩ := Option.bind_eq_some_iff.mp h
  have fI2 : Fc pC I I2 := Fc_tr fI (fr_X1_change I o I2 hc3)
  obtain ⟨hk4, h⟩ := gk h
  obtain ⟨hn5, h⟩ := gk h
  rcases sw_2 (A (o + 2) a1.toNatClampNeg) with hs6 | hs6 | hs6 | hs6
  · have h := ip hs6 h
    obtain ⟨hk7, h⟩ := gk h
    obtain ⟨hn8, h⟩ := gk h
    obtain ⟨hk9, h⟩ := gk h
    obtain ⟨hn10, h⟩ := gk h
    obtain ⟨A11, eA11, h⟩ := bd_e h
    have fA11 : Fc pC A A11 := by rw [eA11]; exact Fc_up fA (Nat.not_le.mpr hk9.1)
    cases h; exact ⟨fI2, fA11⟩
  · have h := iN (by rw [hs6]; decide) h
    have h := ip hs6 h
    obtain ⟨hk12, h⟩ := gk h
    obtain ⟨hn13, h⟩ := gk h
    obtain ⟨hk14, h⟩ := gk h
    obtain ⟨hn15, h⟩ := gk h
    obtain ⟨A16, eA16, h⟩ := bd_e h
    have fA16 : Fc pC A A16 := by rw [eA16]; exact Fc_up fA (Nat.not_le.mpr hk14.1)
    cases h; exact ⟨fI2, fA16⟩
  · have h := iN (by rw [hs6]; decide) h
    have h := iN (by rw [hs6]; decide) h
    have h := ip hs6 h
    obtain ⟨hk17, h⟩ := gk h
    obtain ⟨hn18, h⟩ := gk h
    obtain ⟨hk19, h⟩ := gk h
    obtain ⟨hn20, h⟩ := gk h
    obtain ⟨A21, eA21, h⟩ := bd_e h
    have fA21 : Fc pC A A21 := by rw [eA21]; exact Fc_up fA (Nat.not_le.mpr hk19.1)
    cases h; exact ⟨fI2, fA21⟩
  · have h := iN (fun q => by rw [q] at hs6; exact absurd hs6 (by decide)) h
    have h := iN (fun q => by rw [q] at hs6; exact absurd hs6 (by decide)) h
    have h := iN (fun q => by rw [q] at hs6; exact absurd hs6 (by decide)) h
    obtain ⟨hk22, h⟩ := gk h
    obtain ⟨hn23, h⟩ := gk h
    obtain ⟨hk24, h⟩ := gk h
    obtain ⟨hn25, h⟩ := gk h
    obtain ⟨A26, eA26, h⟩ := bd_e h
    have fA26 : Fc pC A A26 := by rw [eA26]; exact Fc_up fA (Nat.not_le.mpr hk24.1)
    cases h; exact ⟨fI2, fA26⟩
set_option maxHeartbeats 4000000 in
set_option maxRecDepth 100000 in
theorem fr_X6_cost (I : Nat → Nat → Int32) (A : Nat → Nat → Int32) (a1 : Int32) (a2 : Int32) (a3 : Int32) (a4 : Int32) (r0 : Int32) (I0 : Nat → Nat → Int32) (A0 : Nat → Nat → Int32) (h : f_X6_cost I A a1 a2 a3 a4 = some (r0, I0, A0)) : Fc pC I I0 ∧ Fc pC A A0 := by
  have fI : Fc pC I I := Fc_rf
  have fA : Fc pC A A := Fc_rf
  rw [f_X6_cost] at h
  obtain ⟨r1, hc2, h⟩ := Option.bind_eq_some_iff.mp h
  by_cases c_3 : r1 = 0
  · have h := ip c_3 h
    obtain ⟨⟨r4, I5⟩, hc6, h⟩ := Option.bind_eq_some_iff.mp h
    have fI5 : Fc pC I I5 := Fc_tr fI (fr_X6_refuse I (-1) r4 I5 hc6)
    cases h; exact ⟨fI5, fA⟩
  · have h := iN c_3 h
    obtain ⟨hn7, h⟩ := gk h
    obtain ⟨hk8, h⟩ := gk h
    obtain ⟨r9, hc10, h⟩ := Option.bind_eq_some_iff.mp h
    by_cases c_11 : r9 = 0
    · have h := ip c_11 h
      obtain ⟨⟨r12, I13⟩, hc14, h⟩ := Option.bind_eq_some_iff.mp h
      have fI13 : Fc pC I I13 := Fc_tr fI (fr_X6_refuse I (-1) r12 I13 hc14)
      cases h; exact ⟨fI13, fA⟩
    · have h := iN c_11 h
      obtain ⟨r15, hc16, h⟩ := Option.bind_eq_some_iff.mp h
      by_cases c_17 : r15 = 0
      · have h := ip c_17 h
        obtain ⟨⟨r29, I30⟩, hc31, h⟩ := Option.bind_eq_some_iff.mp h
        have fI30 : Fc pC I I30 := Fc_tr fI (fr_X6_refuse I (-1) r29 I30 hc31)
        cases h; exact ⟨fI30, fA⟩
      · have h := iN c_17 h
        by_cases c_18 : (I 0 5) = (-9)
        · have h := ip c_18 h
          obtain ⟨⟨r19, I20, A21⟩, hc22, h⟩ := Option.bind_eq_some_iff.mp h
          have fI20 : Fc pC I I20 := Fc_tr fI (fr_X1_setCost I A (58 + 52 * a1.toNatClampNeg) a2 a3 a4 r19 I20 A21 hc22).1
          have fA21 : Fc pC A A21 := Fc_tr fA (fr_X1_setCost I A (58 + 52 * a1.toNatClampNeg) a2 a3 a4 r19 I20 A21 hc22).2
          obtain ⟨⟨r23, I24⟩, hc25, h⟩ := Option.bind_eq_some_iff.mp h
          have fI24 : Fc pC I I24 := Fc_tr fI20 (fr_X6_grant I20 r19 r23 I24 hc25)
          cases h; exact ⟨fI24, fA21⟩
        · have h := iN c_18 h
          obtain ⟨⟨r26, I27⟩, hc28, h⟩ := Option.bind_eq_some_iff.mp h
          have fI27 : Fc pC I I27 := Fc_tr fI (fr_X6_refuse I (-2) r26 I27 hc28)
          cases h; exact ⟨fI27, fA⟩
set_option maxHeartbeats 4000000 in
set_option maxRecDepth 100000 in
theorem fr_X6_costs (I : Nat → Nat → Int32) (A : Nat → Nat → Int32) (a1 : Int32) (a2 : Int32) (a3 : Int32) (r0 : Int32) (I0 : Nat → Nat → Int32) (h : f_X6_costs I A a1 a2 a3 = some (r0, I0)) : Fc pC I I0 := by
  have fI : Fc pC I I := Fc_rf
  have fA : Fc pC A A := Fc_rf
  rw [f_X6_costs] at h
  obtain ⟨r1, hc2, h⟩ := Option.bind_eq_some_iff.mp h
  by_cases c_3 : r1 = 0
  · have h := ip c_3 h
    obtain ⟨⟨r4, I5⟩, hc6, h⟩ := Option.bind_eq_some_iff.mp h
    have fI5 : Fc pC I I5 := Fc_tr fI (fr_X6_refuse I (-1) r4 I5 hc6)
    cases h; exact fI5
  · have h := iN c_3 h
    obtain ⟨hn7, h⟩ := gk h
    obtain ⟨hk8, h⟩ := gk h
    obtain ⟨r9, hc10, h⟩ := Option.bind_eq_some_iff.mp h
    by_cases c_11 : r9 = 0
    · have h := ip c_11 h
      obtain ⟨⟨r19, I20⟩, hc21, h⟩ := Option.bind_eq_some_iff.mp h
      have fI20 : Fc pC I I20 := Fc_tr fI (fr_X6_refuse I (-1) r19 I20 hc21)
      cases h; exact fI20
    · have h := iN c_11 h
      obtain ⟨hk12, h⟩ := gk h
      obtain ⟨hn13, h⟩ := gk h
      obtain ⟨hk14, h⟩ := gk h
      obtain ⟨hn15, h⟩ := gk h
      obtain ⟨⟨r16, I17⟩, hc18, h⟩ := Option.bind_eq_some_iff.mp h
      have fI17 : Fc pC I I17 := Fc_tr fI (fr_X6_grant I (A (58 + 52 * a1.toNatClampNeg + 4 + a2.toNatClampNeg) a3.toNatClampNeg) r16 I17 hc18)
      cases h; exact fI17
set_option maxHeartbeats 4000000 in
set_option maxRecDepth 100000 in
theorem fr_X3_sumUp (I : Nat → Nat → Int32) (G : Nat → Nat → Nat) (A : Nat → Nat → Int32) (L : Nat → Nat → Int64) (a1 : Int32) (s2 : Nat) (A0 : Nat → Nat → Int32) (h : f_X3_sumUp I G A L a1 s2 = some A0) : Fc pC A A0 := by
  have fI : Fc pC I I := Fc_rf
  have fG : Fc pC G G := Fc_rf
  have fA : Fc pC A A := Fc_rf
  have fL : Fc pC L L := Fc_rf
  rw [f_X3_sumUp] at h
  obtain ⟨j4, ej4, h⟩ := bd_e h
  have kj4 : ∀ (z3 : Int32), j4 z3 = some A0 → Fc pC A A0 := by
    intro z3 h
    subst ej4
    obtain ⟨j12, ej12, h⟩ := bd_e h
    have kj12 : ∀ (z11 : Int32), j12 z11 = some A0 → Fc pC A A0 := by
      intro z11 h
      subst ej12
      obtain ⟨j17, ej17, h⟩ := bd_e h
      have kj17 : ∀ (z16 : Int32), j17 z16 = some A0 → Fc pC A A0 := by
        intro z16 h
        subst ej17
        obtain ⟨A18, hc19, h⟩ := Option.bind_eq_some_iff.mp h
        have fA18 : Fc pC A A18 := Fc_tr fA (fr_J7_fill_53178 A s2 (-9) A18 hc19)
        obtain ⟨hk20, h⟩ := gk h
        obtain ⟨hn21, h⟩ := gk h
        obtain ⟨A22, eA22, h⟩ := bd_e h
        have fA22 : Fc pC A A22 := by rw [eA22]; exact Fc_up fA18 (Nat.not_le.mpr hk20.1)
        obtain ⟨hk23, h⟩ := gk h
        obtain ⟨hn24, h⟩ := gk h
        obtain ⟨A25, eA25, h⟩ := bd_e h
        have fA25 : Fc pC A A25 := by rw [eA25]; exact Fc_up fA22 (Nat.not_le.mpr hk20.1)
        obtain ⟨hn26, h⟩ := gk h
        obtain ⟨A27, eA27, h⟩ := bd_e h
        have fA27 : Fc pC A A27 := by rw [eA27]; exact Fc_up fA25 (Nat.not_le.mpr hk20.1)
        obtain ⟨hn28, h⟩ := gk h
        obtain ⟨A29, eA29, h⟩ := bd_e h
        have fA29 : Fc pC A A29 := by rw [eA29]; exact Fc_up fA27 (Nat.not_le.mpr hk20.1)
        by_cases c_30 : z3 = 0
        · have h := ip c_30 h
          obtain ⟨hn31, h⟩ := gk h
          obtain ⟨A32, eA32, h⟩ := bd_e h
          have fA32 : Fc pC A A32 := by rw [eA32]; exact Fc_up fA29 (Nat.not_le.mpr hk20.1)
          obtain ⟨hn33, h⟩ := gk h
          obtain ⟨A34, eA34, h⟩ := bd_e h
          have fA34 : Fc pC A A34 := by rw [eA34]; exact Fc_up fA32 (Nat.not_le.mpr hk20.1)
          by_cases c_35 : z3 = 0
          · have h := ip c_35 h
            cases h; exact fA34
          · have h := iN c_35 h
            obtain ⟨A36, hc37, h⟩ := Option.bind_eq_some_iff.mp h
            have fA36 : Fc pC A A36 := Fc_tr fA34 (fr_X5_copyValues A34 L (G 14 0) z11 s2 6 A36 hc37)
            cases h; exact fA36
        · have h := iN c_30 h
          obtain ⟨hn38, h⟩ := gk h
          obtain ⟨A39, eA39, h⟩ := bd_e h
          have fA39 : Fc pC A A39 := by rw [eA39]; exact Fc_up fA29 (Nat.not_le.mpr hk20.1)
          obtain ⟨hn40, h⟩ := gk h
          obtain ⟨A41, eA41, h⟩ := bd_e h
          have fA41 : Fc pC A A41 := by rw [eA41]; exact Fc_up fA39 (Nat.not_le.mpr hk20.1)
          by_cases c_42 : z3 = 0
          · have h := ip c_42 h
            cases h; exact fA41
          · have h := iN c_42 h
            obtain ⟨A43, hc44, h⟩ := Option.bind_eq_some_iff.mp h
            have fA43 : Fc pC A A43 := Fc_tr fA41 (fr_X5_copyValues A41 L (G 14 0) z11 s2 6 A43 hc44)
            cases h; exact fA43
      by_cases c_45 : z11 = (-1)
      · have h := ip c_45 h
        exact kj17 (-1000000) h
      · have h := iN c_45 h
        obtain ⟨hk46, h⟩ := gk h
        obtain ⟨r47, hc48, h⟩ := Option.bind_eq_some_iff.mp h
        exact kj17 r47 h
    by_cases c_49 : z3 = 0
    · have h := ip c_49 h
      obtain ⟨hk50, h⟩ := gk h
      obtain ⟨r51, hc52, h⟩ := Option.bind_eq_some_iff.mp h
      exact kj12 r51 h
    · have h := iN c_49 h
      obtain ⟨hk53, h⟩ := gk h
      obtain ⟨hk54, h⟩ := gk h
      obtain ⟨hn55, h⟩ := gk h
      exact kj12 (A (G 14 0 + 9) (((I (G 14 0) 11) - 1).toNatClampNeg)) h
  by_cases c_56 : a1 = 1
  · have h := ip c_56 h
    obtain ⟨hk57, h⟩ := gk h
    by_cases c_58 : 0 < (I (G 14 0) 11)
    · have h := ip c_58 h
      exact kj4 1 h
    · have h := iN c_58 h
      exact kj4 0 h
  · have h := iN c_56 h
    exact kj4 0 h
set_option maxHeartbeats 4000000 in
set_option maxRecDepth 100000 in
theorem fr_X6_endSolving (I : Nat → Nat → Int32) (G : Nat → Nat → Nat) (A : Nat → Nat → Int32) (L : Nat → Nat → Int64) (a1 : Int32) (I0 : Nat → Nat → Int32) (G0 : Nat → Nat → Nat) (A0 : Nat → Nat → Int32) (h : f_X6_endSolving I G A L a1 = some (I0, G0, A0)) : Fc pC I I0 ∧ Fc pC G G0 ∧ Fc pC A A0 := by
  have fI : Fc pC I I := Fc_rf
  have fG : Fc pC G G := Fc_rf
  have fA : Fc pC A A := Fc_rf
  have fL : Fc pC L L := Fc_rf
  rw [f_X6_endSolving] at h
  obtain ⟨r1, hc2, h⟩ := Option.bind_eq_some_iff.mp h
  by_cases c_3 : r1 = 0
  · have h := ip c_3 h
    cases h; exact ⟨fI, fG, fA⟩
  · have h := iN c_3 h
    obtain ⟨hn4, h⟩ := gk h
    obtain ⟨hk5, h⟩ := gk h
    obtain ⟨A6, hc7, h⟩ := Option.bind_eq_some_iff.mp h
    have fA6 : Fc pC A A6 := Fc_tr fA (fr_X3_sumUp I G A L a1 (58 + 52 * ((I 0 5).toNatClampNeg) + 11) A6 hc7)
    obtain ⟨I8, eI8, h⟩ := bd_e h
    have fI8 : Fc pC I I8 := by rw [eI8]; exact Fc_up fI (Nat.not_le.mpr hk5.1)
    obtain ⟨G9, eG9, h⟩ := bd_e h
    have fG9 : Fc pC G G9 := by rw [eG9]; exact Fc_up fG (show ¬ 318 ≤ 0 by decide)
    obtain ⟨G10, eG10, h⟩ := bd_e h
    have fG10 : Fc pC G G10 := by rw [eG10]; exact Fc_up fG9 (show ¬ 318 ≤ 14 by decide)
    obtain ⟨I11, eI11, h⟩ := bd_e h
    have fI11 : Fc pC I I11 := by rw [eI11]; exact Fc_up fI8 (show ¬ 318 ≤ 0 by decide)
    cases h; exact ⟨fI11, fG10, fA6⟩
set_option maxHeartbeats 4000000 in
set_option maxRecDepth 100000 in
theorem fr_X6_fail (I : Nat → Nat → Int32) (A : Nat → Nat → Int32) (a1 : Int32) (a2 : Int32) (r0 : Int32) (A0 : Nat → Nat → Int32) (h : f_X6_fail I A a1 a2 = some (r0, A0)) : Fc pC A A0 := by
  have fI : Fc pC I I := Fc_rf
  have fA : Fc pC A A := Fc_rf
  rw [f_X6_fail] at h
  obtain ⟨r1, hc2, h⟩ := Option.bind_eq_some_iff.mp h
  by_cases c_3 : r1 = 0
  · have h := ip c_3 h
    cases h; exact fA
  · have h := iN c_3 h
    obtain ⟨r4, hc5, h⟩ := Option.bind_eq_some_iff.mp h
    by_cases c_6 : r4 = 0
    · have h := ip c_6 h
      cases h; exact fA
    · have h := iN c_6 h
      by_cases c_7 : (I 0 5) = (-9)
      · have h := ip c_7 h
        obtain ⟨hn8, h⟩ := gk h
        obtain ⟨A9, eA9, h⟩ := bd_e h
        have fA9 : Fc pC A A9 := by rw [eA9]; exact Fc_up fA (show ¬ 318 ≤ 3 by decide)
        cases h; exact fA9
      · have h := iN c_7 h
        cases h; exact fA
set_option maxHeartbeats 4000000 in
set_option maxRecDepth 100000 in
theorem fr_X6_giveUp (I : Nat → Nat → Int32) (r0 : Int32) (I0 : Nat → Nat → Int32) (h : f_X6_giveUp I = some (r0, I0)) : Fc pC I I0 := by
  have fI : Fc pC I I := Fc_rf
  rw [f_X6_giveUp] at h
  by_cases c_1 : (I 0 5) = (-9)
  · have h := ip c_1 h
    cases h; exact fI
  · have h := iN c_1 h
    obtain ⟨I2, eI2, h⟩ := bd_e h
    have fI2 : Fc pC I I2 := by rw [eI2]; exact Fc_up fI (show ¬ 318 ≤ 0 by decide)
    cases h; exact fI2
set_option maxHeartbeats 4000000 in
set_option maxRecDepth 100000 in
theorem fr_X4_become (I : Nat → Nat → Int32) (A : Nat → Nat → Int32) (o : Nat) (a1 : Int32) (I0 : Nat → Nat → Int32) (A0 : Nat → Nat → Int32) (h : f_X4_become I A o a1 = some (I0, A0)) : Fc pC I I0 ∧ Fc pC A A0 := by
  have fI : Fc pC I I := Fc_rf
  have fA : Fc pC A A := Fc_rf
  rw [f_X4_become] at h
  obtain ⟨hk1, h⟩ := gk h
  obtain ⟨I2, eI2, h⟩ := bd_e h
  have fI2 : Fc pC I I2 := by rw [eI2]; exact Fc_up fI (Nat.not_le.mpr hk1.1)
  obtain ⟨A3, hc4, h⟩ := Option.bind_eq_some_iff.mp h
  have fA3 : Fc pC A A3 := Fc_tr fA (fr_J7_fill_53178 A (o + 1) 0 A3 hc4)
  cases h; exact ⟨fI2, fA3⟩
set_option maxHeartbeats 4000000 in
set_option maxRecDepth 100000 in
theorem fr_X6_helpers (I : Nat → Nat → Int32) (A : Nat → Nat → Int32) (a1 : Int32) (r0 : Int32) (I0 : Nat → Nat → Int32) (A0 : Nat → Nat → Int32) (h : f_X6_helpers I A a1 = some (r0, I0, A0)) : Fc pC I I0 ∧ Fc pC A A0 := by
  have fI : Fc pC I I := Fc_rf
  have fA : Fc pC A A := Fc_rf
  rw [f_X6_helpers] at h
  obtain ⟨r1, hc2, h⟩ := Option.bind_eq_some_iff.mp h
  by_cases c_3 : r1 = 0
  · have h := ip c_3 h
    cases h; exact ⟨fI, fA⟩
  · have h := iN c_3 h
    by_cases c_4 : (I 0 5) = (-9)
    · have h := ip c_4 h
      obtain ⟨⟨I5, A6⟩, hc7, h⟩ := Option.bind_eq_some_iff.mp h
      have fI5 : Fc pC I I5 := Fc_tr fI (fr_X4_become I A 2 a1 I5 A6 hc7).1
      have fA6 : Fc pC A A6 := Fc_tr fA (fr_X4_become I A 2 a1 I5 A6 hc7).2
      cases h; exact ⟨fI5, fA6⟩
    · have h := iN c_4 h
      cases h; exact ⟨fI, fA⟩
set_option maxHeartbeats 4000000 in
set_option maxRecDepth 100000 in
theorem fr_X6_limit (I : Nat → Nat → Int32) (a1 : Int32) (r0 : Int32) (I0 : Nat → Nat → Int32) (h : f_X6_limit I a1 = some (r0, I0)) : Fc pC I I0 := by
  have fI : Fc pC I I := Fc_rf
  rw [f_X6_limit] at h
  obtain ⟨r1, hc2, h⟩ := Option.bind_eq_some_iff.mp h
  by_cases c_3 : r1 = 0
  · have h := ip c_3 h
    cases h; exact fI
  · have h := iN c_3 h
    by_cases c_4 : (I 0 5) = (-9)
    · have h := ip c_4 h
      obtain ⟨I5, eI5, h⟩ := bd_e h
      have fI5 : Fc pC I I5 := by rw [eI5]; exact Fc_up fI (show ¬ 318 ≤ 0 by decide)
      cases h; exact fI5
    · have h := iN c_4 h
      cases h; exact fI
set_option maxHeartbeats 4000000 in
set_option maxRecDepth 100000 in
theorem fr_X6_node (I : Nat → Nat → Int32) (A : Nat → Nat → Int32) (a1 : Int32) (a2 : Int32) (a3 : Int32) (r0 : Int32) (I0 : Nat → Nat → Int32) (h : f_X6_node I A a1 a2 a3 = some (r0, I0)) : Fc pC I I0 := by
  have fI : Fc pC I I := Fc_rf
  have fA : Fc pC A A := Fc_rf
  rw [f_X6_node] at h
  obtain ⟨r1, hc2, h⟩ := Option.bind_eq_some_iff.mp h
  by_cases c_3 : r1 = 0
  · have h := ip c_3 h
    cases h; exact fI
  · have h := iN c_3 h
    by_cases c_4 : (I 0 7) = (-9)
    · have h := ip c_4 h
      cases h; exact fI
    · have h := iN c_4 h
      obtain ⟨hn5, h⟩ := gk h
      obtain ⟨hk6, h⟩ := gk h
      by_cases c_7 : (I (58 + 52 * ((I 0 7).toNatClampNeg)) 2) = (I 0 8)
      · have h := ip c_7 h
        by_cases c_8 : a1 = 0
        · have h := ip c_8 h
          obtain ⟨r21, hc22, h⟩ := Option.bind_eq_some_iff.mp h
          by_cases c_23 : r21 = 0
          · have h := ip c_23 h
            cases h; exact fI
          · have h := iN c_23 h
            obtain ⟨hk24, h⟩ := gk h
            obtain ⟨hn25, h⟩ := gk h
            obtain ⟨hk26, h⟩ := gk h
            obtain ⟨r27, hc28, h⟩ := Option.bind_eq_some_iff.mp h
            obtain ⟨r29, hc30, h⟩ := Option.bind_eq_some_iff.mp h
            cases h; exact fI
        · have h := iN c_8 h
          by_cases c_9 : a1 = 1
          · have h := ip c_9 h
            obtain ⟨r14, hc15, h⟩ := Option.bind_eq_some_iff.mp h
            by_cases c_16 : r14 = 0
            · have h := ip c_16 h
              cases h; exact fI
            · have h := iN c_16 h
              obtain ⟨r17, hc18, h⟩ := Option.bind_eq_some_iff.mp h
              obtain ⟨r19, hc20, h⟩ := Option.bind_eq_some_iff.mp h
              cases h; exact fI
          · have h := iN c_9 h
            obtain ⟨I10, hc11, h⟩ := Option.bind_eq_some_iff.mp h
            have fI10 : Fc pC I I10 := Fc_tr fI (fr_X0_look I A 17 (58 + 52 * ((I 0 7).toNatClampNeg)) 18 (I 0 9) 1 I10 hc11)
            by_cases c_12 : a1 = 2
            · have h := ip c_12 h
              cases h; exact fI10
            · have h := iN c_12 h
              by_cases c_13 : a1 = 3
              · have h := ip c_13 h
                cases h; exact fI10
              · have h := iN c_13 h
                cases h; exact fI10
      · have h := iN c_7 h
        cases h; exact fI
set_option maxHeartbeats 4000000 in
set_option maxRecDepth 100000 in
theorem fr_X1_setNumber (I : Nat → Nat → Int32) (o : Nat) (a1 : Int32) (a2 : Int32) (r0 : Int32) (I0 : Nat → Nat → Int32) (h : f_X1_setNumber I o a1 a2 = some (r0, I0)) : Fc pC I I0 := by
  have fI : Fc pC I I := Fc_rf
  rw [f_X1_setNumber] at h
  obtain ⟨hk1, h⟩ := gk h
  obtain ⟨I2, hc3, h⟩ := Option.bind_eq_some_iff.mp h
  have fI2 : Fc pC I I2 := Fc_tr fI (fr_X1_change I o I2 hc3)
  obtain ⟨hk4, h⟩ := gk h
  obtain ⟨hn5, h⟩ := gk h
  obtain ⟨hk6, h⟩ := gk h
  obtain ⟨I7, eI7, h⟩ := bd_e h
  have fI7 : Fc pC I I7 := by rw [eI7]; exact Fc_up fI2 (Nat.not_le.mpr hk6.1)
  cases h; exact fI7
set_option maxHeartbeats 4000000 in
set_option maxRecDepth 100000 in
theorem fr_X6_number (I : Nat → Nat → Int32) (a1 : Int32) (a2 : Int32) (a3 : Int32) (r0 : Int32) (I0 : Nat → Nat → Int32) (h : f_X6_number I a1 a2 a3 = some (r0, I0)) : Fc pC I I0 := by
  have fI : Fc pC I I := Fc_rf
  rw [f_X6_number] at h
  obtain ⟨r1, hc2, h⟩ := Option.bind_eq_some_iff.mp h
  by_cases c_3 : r1 = 0
  · have h := ip c_3 h
    obtain ⟨⟨r4, I5⟩, hc6, h⟩ := Option.bind_eq_some_iff.mp h
    have fI5 : Fc pC I I5 := Fc_tr fI (fr_X6_refuse I (-1) r4 I5 hc6)
    cases h; exact fI5
  · have h := iN c_3 h
    obtain ⟨hn7, h⟩ := gk h
    obtain ⟨hk8, h⟩ := gk h
    obtain ⟨r9, hc10, h⟩ := Option.bind_eq_some_iff.mp h
    by_cases c_11 : r9 = 0
    · have h := ip c_11 h
      obtain ⟨⟨r12, I13⟩, hc14, h⟩ := Option.bind_eq_some_iff.mp h
      have fI13 : Fc pC I I13 := Fc_tr fI (fr_X6_refuse I (-1) r12 I13 hc14)
      cases h; exact fI13
    · have h := iN c_11 h
      obtain ⟨r15, hc16, h⟩ := Option.bind_eq_some_iff.mp h
      by_cases c_17 : r15 = 0
      · have h := ip c_17 h
        obtain ⟨⟨r28, I29⟩, hc30, h⟩ := Option.bind_eq_some_iff.mp h
        have fI29 : Fc pC I I29 := Fc_tr fI (fr_X6_refuse I (-1) r28 I29 hc30)
        cases h; exact fI29
      · have h := iN c_17 h
        by_cases c_18 : (I 0 5) = (-9)
        · have h := ip c_18 h
          obtain ⟨⟨r19, I20⟩, hc21, h⟩ := Option.bind_eq_some_iff.mp h
          have fI20 : Fc pC I I20 := Fc_tr fI (fr_X1_setNumber I (58 + 52 * a1.toNatClampNeg) a2 a3 r19 I20 hc21)
          obtain ⟨⟨r22, I23⟩, hc24, h⟩ := Option.bind_eq_some_iff.mp h
          have fI23 : Fc pC I I23 := Fc_tr fI20 (fr_X6_grant I20 r19 r22 I23 hc24)
          cases h; exact fI23
        · have h := iN c_18 h
          obtain ⟨⟨r25, I26⟩, hc27, h⟩ := Option.bind_eq_some_iff.mp h
          have fI26 : Fc pC I I26 := Fc_tr fI (fr_X6_refuse I (-2) r25 I26 hc27)
          cases h; exact fI26
set_option maxHeartbeats 4000000 in
set_option maxRecDepth 100000 in
theorem fr_X2_add (I : Nat → Nat → Int32) (A : Nat → Nat → Int32) (o : Nat) (a1 : Int32) (a2 : Int32) (I0 : Nat → Nat → Int32) (A0 : Nat → Nat → Int32) (h : f_X2_add I A o a1 a2 = some (I0, A0)) : Fc pC I I0 ∧ Fc pC A A0 := by
  have fI : Fc pC I I := Fc_rf
  have fA : Fc pC A A := Fc_rf
  rw [f_X2_add] at h
  obtain ⟨hk1, h⟩ := gk h
  obtain ⟨hk2, h⟩ := gk h
  obtain ⟨hn3, h⟩ := gk h
  obtain ⟨A4, eA4, h⟩ := bd_e h
  have fA4 : Fc pC A A4 := by rw [eA4]; exact Fc_up fA (Nat.not_le.mpr hk2.1)
  obtain ⟨hk5, h⟩ := gk h
  obtain ⟨hn6, h⟩ := gk h
  obtain ⟨A7, eA7, h⟩ := bd_e h
  have fA7 : Fc pC A A7 := by rw [eA7]; exact Fc_up fA4 (Nat.not_le.mpr hk5.1)
  obtain ⟨hk8, h⟩ := gk h
  obtain ⟨hn9, h⟩ := gk h
  obtain ⟨A10, eA10, h⟩ := bd_e h
  have fA10 : Fc pC A A10 := by rw [eA10]; exact Fc_up fA7 (Nat.not_le.mpr hk8.1)
  obtain ⟨hk11, h⟩ := gk h
  obtain ⟨hn12, h⟩ := gk h
  obtain ⟨A13, eA13, h⟩ := bd_e h
  have fA13 : Fc pC A A13 := by rw [eA13]; exact Fc_up fA10 (Nat.not_le.mpr hk11.1)
  obtain ⟨I14, eI14, h⟩ := bd_e h
  have fI14 : Fc pC I I14 := by rw [eI14]; exact Fc_up fI (Nat.not_le.mpr hk1.1)
  cases h; exact ⟨fI14, fA13⟩
set_option maxHeartbeats 4000000 in
set_option maxRecDepth 100000 in
theorem fr_X1_addPart (I : Nat → Nat → Int32) (A : Nat → Nat → Int32) (o : Nat) (a1 : Int32) (a2 : Int32) (a3 : Int32) (r0 : Int32) (I0 : Nat → Nat → Int32) (A0 : Nat → Nat → Int32) (h : f_X1_addPart I A o a1 a2 a3 = some (r0, I0, A0)) : Fc pC I I0 ∧ Fc pC A A0 := by
  have fI : Fc pC I I := Fc_rf
  have fA : Fc pC A A := Fc_rf
  rw [f_X1_addPart] at h
  obtain ⟨hk1, h⟩ := gk h
  obtain ⟨I2, hc3, h⟩ := Option.bind_eq_some_iff.mp h
  have fI2 : Fc pC I I2 := Fc_tr fI (fr_X1_change I o I2 hc3)
  obtain ⟨hk4, h⟩ := gk h
  obtain ⟨hn5, h⟩ := gk h
  obtain ⟨hk6, h⟩ := gk h
  obtain ⟨⟨I7, A8⟩, hc9, h⟩ := Option.bind_eq_some_iff.mp h
  have fI7 : Fc pC I I7 := Fc_tr fI2 (fr_X2_add I2 A (o + 12 + 5 * a1.toNatClampNeg) a2 a3 I7 A8 hc9).1
  have fA8 : Fc pC A A8 := Fc_tr fA (fr_X2_add I2 A (o + 12 + 5 * a1.toNatClampNeg) a2 a3 I7 A8 hc9).2
  cases h; exact ⟨fI7, fA8⟩
set_option maxHeartbeats 4000000 in
set_option maxRecDepth 100000 in
theorem fr_X6_part (I : Nat → Nat → Int32) (A : Nat → Nat → Int32) (a1 : Int32) (a2 : Int32) (a3 : Int32) (a4 : Int32) (r0 : Int32) (I0 : Nat → Nat → Int32) (A0 : Nat → Nat → Int32) (h : f_X6_part I A a1 a2 a3 a4 = some (r0, I0, A0)) : Fc pC I I0 ∧ Fc pC A A0 := by
  have fI : Fc pC I I := Fc_rf
  have fA : Fc pC A A := Fc_rf
  rw [f_X6_part] at h
  obtain ⟨r1, hc2, h⟩ := Option.bind_eq_some_iff.mp h
  by_cases c_3 : r1 = 0
  · have h := ip c_3 h
    cases h; exact ⟨fI, fA⟩
  · have h := iN c_3 h
    obtain ⟨r4, hc5, h⟩ := Option.bind_eq_some_iff.mp h
    by_cases c_6 : r4 = 0
    · have h := ip c_6 h
      cases h; exact ⟨fI, fA⟩
    · have h := iN c_6 h
      obtain ⟨hn7, h⟩ := gk h
      obtain ⟨hk8, h⟩ := gk h
      obtain ⟨r9, hc10, h⟩ := Option.bind_eq_some_iff.mp h
      by_cases c_11 : r9 = 0
      · have h := ip c_11 h
        cases h; exact ⟨fI, fA⟩
      · have h := iN c_11 h
        obtain ⟨r12, hc13, h⟩ := Option.bind_eq_some_iff.mp h
        by_cases c_14 : r12 = 0
        · have h := ip c_14 h
          cases h; exact ⟨fI, fA⟩
        · have h := iN c_14 h
          by_cases c_15 : (I 0 5) = (-9)
          · have h := ip c_15 h
            obtain ⟨hk16, h⟩ := gk h
            obtain ⟨hn17, h⟩ := gk h
            obtain ⟨hk18, h⟩ := gk h
            obtain ⟨hk19, h⟩ := gk h
            obtain ⟨hn20, h⟩ := gk h
            by_cases c_21 : (A (58 + 52 * a1.toNatClampNeg + 12 + 5 * a2.toNatClampNeg + 3) a3.toNatClampNeg) = 0
            · have h := ip c_21 h
              obtain ⟨⟨r22, I23, A24⟩, hc25, h⟩ := Option.bind_eq_some_iff.mp h
              have fI23 : Fc pC I I23 := Fc_tr fI (fr_X1_addPart I A (58 + 52 * a1.toNatClampNeg) a2 a3 a4 r22 I23 A24 hc25).1
              have fA24 : Fc pC A A24 := Fc_tr fA (fr_X1_addPart I A (58 + 52 * a1.toNatClampNeg) a2 a3 a4 r22 I23 A24 hc25).2
              cases h; exact ⟨fI23, fA24⟩
            · have h := iN c_21 h
              cases h; exact ⟨fI, fA⟩
          · have h := iN c_15 h
            cases h; exact ⟨fI, fA⟩
set_option maxHeartbeats 4000000 in
set_option maxRecDepth 100000 in
theorem fr_X6_plain (I : Nat → Nat → Int32) (r0 : Int32) (I0 : Nat → Nat → Int32) (h : f_X6_plain I = some (r0, I0)) : Fc pC I I0 := by
  have fI : Fc pC I I := Fc_rf
  rw [f_X6_plain] at h
  by_cases c_1 : (I 0 5) = (-9)
  · have h := ip c_1 h
    obtain ⟨I2, eI2, h⟩ := bd_e h
    have fI2 : Fc pC I I2 := by rw [eI2]; exact Fc_up fI (show ¬ 318 ≤ 2 by decide)
    cases h; exact fI2
  · have h := iN c_1 h
    cases h; exact fI
set_option maxHeartbeats 4000000 in
set_option maxRecDepth 100000 in
theorem fr_X6_problem (I : Nat → Nat → Int32) (r0 : Int32) (I0 : Nat → Nat → Int32) (h : f_X6_problem I = some (r0, I0)) : Fc pC I I0 := by
  have fI : Fc pC I I := Fc_rf
  rw [f_X6_problem] at h
  by_cases c_1 : (I 0 5) = (-9)
  · have h := ip c_1 h
    by_cases c_2 : (I 0 1) < 5
    · have h := ip c_2 h
      obtain ⟨I3, eI3, h⟩ := bd_e h
      have fI3 : Fc pC I I3 := by rw [eI3]; exact Fc_up fI (show ¬ 318 ≤ 0 by decide)
      cases h; exact fI3
    · have h := iN c_2 h
      cases h; exact fI
  · have h := iN c_1 h
    cases h; exact fI
set_option maxHeartbeats 4000000 in
set_option maxRecDepth 100000 in
theorem fr_X1_addRule (I : Nat → Nat → Int32) (o : Nat) (a1 : Int32) (a2 : Int32) (r0 : Int32) (I0 : Nat → Nat → Int32) (h : f_X1_addRule I o a1 a2 = some (r0, I0)) : Fc pC I I0 := by
  have fI : Fc pC I I := Fc_rf
  rw [f_X1_addRule] at h
  obtain ⟨hk1, h⟩ := gk h
  obtain ⟨I2, hc3, h⟩ := Option.bind_eq_some_iff.mp h
  have fI2 : Fc pC I I2 := Fc_tr fI (fr_X1_change I o I2 hc3)
  obtain ⟨hk4, h⟩ := gk h
  obtain ⟨hn5, h⟩ := gk h
  obtain ⟨hk6, h⟩ := gk h
  obtain ⟨I7, eI7, h⟩ := bd_e h
  have fI7 : Fc pC I I7 := by rw [eI7]; exact Fc_up fI2 (Nat.not_le.mpr hk6.1)
  obtain ⟨hn8, h⟩ := gk h
  obtain ⟨hk9, h⟩ := gk h
  obtain ⟨I10, eI10, h⟩ := bd_e h
  have fI10 : Fc pC I I10 := by rw [eI10]; exact Fc_up fI7 (Nat.not_le.mpr hk9.1)
  obtain ⟨I11, eI11, h⟩ := bd_e h
  have fI11 : Fc pC I I11 := by rw [eI11]; exact Fc_up fI10 (Nat.not_le.mpr hk1.1)
  cases h; exact fI11
set_option maxHeartbeats 4000000 in
set_option maxRecDepth 100000 in
theorem fr_X6_rule (I : Nat → Nat → Int32) (a1 : Int32) (a2 : Int32) (a3 : Int32) (r0 : Int32) (I0 : Nat → Nat → Int32) (h : f_X6_rule I a1 a2 a3 = some (r0, I0)) : Fc pC I I0 := by
  have fI : Fc pC I I := Fc_rf
  rw [f_X6_rule] at h
  obtain ⟨r1, hc2, h⟩ := Option.bind_eq_some_iff.mp h
  by_cases c_3 : r1 = 0
  · have h := ip c_3 h
    cases h; exact fI
  · have h := iN c_3 h
    obtain ⟨r4, hc5, h⟩ := Option.bind_eq_some_iff.mp h
    by_cases c_6 : r4 = 0
    · have h := ip c_6 h
      cases h; exact fI
    · have h := iN c_6 h
      obtain ⟨r7, hc8, h⟩ := Option.bind_eq_some_iff.mp h
      by_cases c_9 : r7 = 0
      · have h := ip c_9 h
        cases h; exact fI
      · have h := iN c_9 h
        by_cases c_10 : (I 0 5) = (-9)
        · have h := ip c_10 h
          obtain ⟨hn11, h⟩ := gk h
          obtain ⟨hk12, h⟩ := gk h
          by_cases c_13 : (I (58 + 52 * a1.toNatClampNeg) 1) < 8
          · have h := ip c_13 h
            obtain ⟨⟨r14, I15⟩, hc16, h⟩ := Option.bind_eq_some_iff.mp h
            have fI15 : Fc pC I I15 := Fc_tr fI (fr_X1_addRule I (58 + 52 * a1.toNatClampNeg) a2 a3 r14 I15 hc16)
            cases h; exact fI15
          · have h := iN c_13 h
            cases h; exact fI
        · have h := iN c_10 h
          cases h; exact fI
set_option maxHeartbeats 4000000 in
set_option maxRecDepth 100000 in
theorem fr_X5_addJudged (I : Nat → Nat → Int32) (A : Nat → Nat → Int32) (L : Nat → Nat → Int64) (o : Nat) (a1 : Int32) (a2 : Int64) (I0 : Nat → Nat → Int32) (A0 : Nat → Nat → Int32) (L0 : Nat → Nat → Int64) (h : f_X5_addJudged I A L o a1 a2 = some (I0, A0, L0)) : Fc pC I I0 ∧ Fc pC A A0 ∧ Fc pC L L0 := by
  have fI : Fc pC I I := Fc_rf
  have fA : Fc pC A A := Fc_rf
  have fL : Fc pC L L := Fc_rf
  rw [f_X5_addJudged] at h
  obtain ⟨hk1, h⟩ := gk h
  obtain ⟨hk2, h⟩ := gk h
  obtain ⟨hk3, h⟩ := gk h
  obtain ⟨hn4, h⟩ := gk h
  obtain ⟨L5, eL5, h⟩ := bd_e h
  have fL5 : Fc pC L L5 := by rw [eL5]; exact Fc_up fL (Nat.not_le.mpr hk3.1)
  obtain ⟨hk6, h⟩ := gk h
  obtain ⟨hn7, h⟩ := gk h
  obtain ⟨A8, eA8, h⟩ := bd_e h
  have fA8 : Fc pC A A8 := by rw [eA8]; exact Fc_up fA (Nat.not_le.mpr hk6.1)
  obtain ⟨hk9, h⟩ := gk h
  obtain ⟨hn10, h⟩ := gk h
  obtain ⟨A11, eA11, h⟩ := bd_e h
  have fA11 : Fc pC A A11 := by rw [eA11]; exact Fc_up fA8 (Nat.not_le.mpr hk9.1)
  obtain ⟨hk12, h⟩ := gk h
  obtain ⟨hn13, h⟩ := gk h
  obtain ⟨A14, eA14, h⟩ := bd_e h
  have fA14 : Fc pC A A14 := by rw [eA14]; exact Fc_up fA11 (Nat.not_le.mpr hk12.1)
  obtain ⟨hk15, h⟩ := gk h
  obtain ⟨hn16, h⟩ := gk h
  obtain ⟨A17, eA17, h⟩ := bd_e h
  have fA17 : Fc pC A A17 := by rw [eA17]; exact Fc_up fA14 (Nat.not_le.mpr hk15.1)
  obtain ⟨hk18, h⟩ := gk h
  obtain ⟨hn19, h⟩ := gk h
  obtain ⟨A20, eA20, h⟩ := bd_e h
  have fA20 : Fc pC A A20 := by rw [eA20]; exact Fc_up fA17 (Nat.not_le.mpr hk18.1)
  obtain ⟨hk21, h⟩ := gk h
  obtain ⟨hn22, h⟩ := gk h
  obtain ⟨A23, eA23, h⟩ := bd_e h
  have fA23 : Fc pC A A23 := by rw [eA23]; exact Fc_up fA20 (Nat.not_le.mpr hk21.1)
  obtain ⟨hk24, h⟩ := gk h
  obtain ⟨hn25, h⟩ := gk h
  obtain ⟨A26, eA26, h⟩ := bd_e h
  have fA26 : Fc pC A A26 := by rw [eA26]; exact Fc_up fA23 (Nat.not_le.mpr hk24.1)
  obtain ⟨I27, eI27, h⟩ := bd_e h
  have fI27 : Fc pC I I27 := by rw [eI27]; exact Fc_up fI (Nat.not_le.mpr hk1.1)
  cases h; exact ⟨fI27, fA26, fL5⟩
set_option maxHeartbeats 4000000 in
set_option maxRecDepth 100000 in
theorem fr_X5_plant (I : Nat → Nat → Int32) (G : Nat → Nat → Nat) (A : Nat → Nat → Int32) (L : Nat → Nat → Int64) (o : Nat) (s1 : Nat) (a2 : Int32) (I0 : Nat → Nat → Int32) (G0 : Nat → Nat → Nat) (A0 : Nat → Nat → Int32) (L0 : Nat → Nat → Int64) (h : f_X5_plant I G A L o s1 a2 = some (I0, G0, A0, L0)) : Fc pC I I0 ∧ Fc pC G G0 ∧ Fc pC A A0 ∧ Fc pC L L0 := by
  have fI : Fc pC I I := Fc_rf
  have fG : Fc pC G G := Fc_rf
  have fA : Fc pC A A := Fc_rf
  have fL : Fc pC L L := Fc_rf
  rw [f_X5_plant] at h
  obtain ⟨hk1, h⟩ := gk h
  obtain ⟨G2, eG2, h⟩ := bd_e h
  have fG2 : Fc pC G G2 := by rw [eG2]; exact Fc_up fG (Nat.not_le.mpr hk1.1)
  obtain ⟨hz3, h⟩ := gk h
  obtain ⟨I4, eI4, h⟩ := bd_e h
  have fI4 : Fc pC I I4 := by rw [eI4]; exact Fc_up fI (Nat.not_le.mpr hk1.1)
  obtain ⟨I5, eI5, h⟩ := bd_e h
  have fI5 : Fc pC I I5 := by rw [eI5]; exact Fc_up fI4 (Nat.not_le.mpr hk1.1)
  obtain ⟨I6, eI6, h⟩ := bd_e h
  have fI6 : Fc pC I I6 := by rw [eI6]; exact Fc_up fI5 (Nat.not_le.mpr hk1.1)
  obtain ⟨I7, eI7, h⟩ := bd_e h
  have fI7 : Fc pC I I7 := by rw [eI7]; exact Fc_up fI6 (Nat.not_le.mpr hk1.1)
  obtain ⟨A8, hc9, h⟩ := Option.bind_eq_some_iff.mp h
  have fA8 : Fc pC A A8 := Fc_tr fA (fr_J7_fill_53178 A (o + 10) (-1) A8 hc9)
  obtain ⟨hk10, h⟩ := gk h
  obtain ⟨I11, hc12, h⟩ := Option.bind_eq_some_iff.mp h
  have fI11 : Fc pC I I11 := Fc_tr fI7 (fr_X0_look I7 A8 (o + 11) (G2 o 14) (o + 10) 0 (I7 o 15) I11 hc12)
  obtain ⟨⟨I13, A14, L15⟩, hc16, h⟩ := Option.bind_eq_some_iff.mp h
  have fI13 : Fc pC I I13 := Fc_tr fI11 (fr_X5_addJudged I11 A8 L o 0 0 I13 A14 L15 hc16).1
  have fA14 : Fc pC A A14 := Fc_tr fA8 (fr_X5_addJudged I11 A8 L o 0 0 I13 A14 L15 hc16).2.1
  have fL15 : Fc pC L L15 := Fc_tr fL (fr_X5_addJudged I11 A8 L o 0 0 I13 A14 L15 hc16).2.2
  obtain ⟨hk17, h⟩ := gk h
  obtain ⟨hn18, h⟩ := gk h
  obtain ⟨A19, eA19, h⟩ := bd_e h
  have fA19 : Fc pC A A19 := by rw [eA19]; exact Fc_up fA14 (Nat.not_le.mpr hk17.1)
  cases h; exact ⟨fI13, fG2, fA19, fL15⟩
set_option maxHeartbeats 4000000 in
set_option maxRecDepth 100000 in
theorem fr_X3_begin (I : Nat → Nat → Int32) (G : Nat → Nat → Nat) (A : Nat → Nat → Int32) (L : Nat → Nat → Int64) (s1 : Nat) (s2 : Nat) (a3 : Int32) (r0 : Int32) (I0 : Nat → Nat → Int32) (G0 : Nat → Nat → Nat) (A0 : Nat → Nat → Int32) (L0 : Nat → Nat → Int64) (h : f_X3_begin I G A L s1 s2 a3 = some (r0, I0, G0, A0, L0)) : Fc pC I I0 ∧ Fc pC G G0 ∧ Fc pC A A0 ∧ Fc pC L L0 := by
  have fI : Fc pC I I := Fc_rf
  have fG : Fc pC G G := Fc_rf
  have fA : Fc pC A A := Fc_rf
  have fL : Fc pC L L := Fc_rf
  rw [f_X3_begin] at h
  obtain ⟨G1, eG1, h⟩ := bd_e h
  have fG1 : Fc pC G G1 := by rw [eG1]; exact Fc_up fG (show ¬ 318 ≤ 14 by decide)
  obtain ⟨I2, eI2, h⟩ := bd_e h
  have fI2 : Fc pC I I2 := by rw [eI2]; exact Fc_up fI (show ¬ 318 ≤ 14 by decide)
  obtain ⟨I3, eI3, h⟩ := bd_e h
  have fI3 : Fc pC I I3 := by rw [eI3]; exact Fc_up fI2 (show ¬ 318 ≤ 14 by decide)
  obtain ⟨hk4, h⟩ := gk h
  obtain ⟨A5, hc6, h⟩ := Option.bind_eq_some_iff.mp h
  have fA5 : Fc pC A A5 := Fc_tr fA (fr_J7_fill_53178 A (G1 14 1 + 3) 0 A5 hc6)
  obtain ⟨A7, hc8, h⟩ := Option.bind_eq_some_iff.mp h
  have fA7 : Fc pC A A7 := Fc_tr fA5 (fr_J7_fill_53178 A5 15 (-1) A7 hc8)
  obtain ⟨A9, hc10, h⟩ := Option.bind_eq_some_iff.mp h
  have fA9 : Fc pC A A9 := Fc_tr fA7 (fr_J7_fill_53178 A7 16 0 A9 hc10)
  obtain ⟨hk11, h⟩ := gk h
  obtain ⟨⟨I12, G13, A14, L15⟩, hc16, h⟩ := Option.bind_eq_some_iff.mp h
  have fI12 : Fc pC I I12 := Fc_tr fI3 (fr_X5_plant I3 G1 A9 L (G1 14 0) s1 1 I12 G13 A14 L15 hc16).1
  have fG13 : Fc pC G G13 := Fc_tr fG1 (fr_X5_plant I3 G1 A9 L (G1 14 0) s1 1 I12 G13 A14 L15 hc16).2.1
  have fA14 : Fc pC A A14 := Fc_tr fA9 (fr_X5_plant I3 G1 A9 L (G1 14 0) s1 1 I12 G13 A14 L15 hc16).2.2.1
  have fL15 : Fc pC L L15 := Fc_tr fL (fr_X5_plant I3 G1 A9 L (G1 14 0) s1 1 I12 G13 A14 L15 hc16).2.2.2
  obtain ⟨hk17, h⟩ := gk h
  obtain ⟨hk18, h⟩ := gk h
  obtain ⟨hn19, h⟩ := gk h
  by_cases c_20 : (A14 (G13 14 0 + 3) 0) = 0
  · have h := ip c_20 h
    cases h; exact ⟨fI12, fG13, fA14, fL15⟩
  · have h := iN c_20 h
    cases h; exact ⟨fI12, fG13, fA14, fL15⟩
set_option maxHeartbeats 4000000 in
set_option maxRecDepth 100000 in
theorem fr_X3_pick (I : Nat → Nat → Int32) (G : Nat → Nat → Nat) (A : Nat → Nat → Int32) (L : Nat → Nat → Int64) (a1 : Int32) (A0 : Nat → Nat → Int32) (h : f_X3_pick I G A L a1 = some A0) : Fc pC A A0 := by
  have fI : Fc pC I I := Fc_rf
  have fG : Fc pC G G := Fc_rf
  have fA : Fc pC A A := Fc_rf
  have fL : Fc pC L L := Fc_rf
  rw [f_X3_pick] at h
  obtain ⟨hk1, h⟩ := gk h
  obtain ⟨j3, ej3, h⟩ := bd_e h
  have kj3 : ∀ (z2 : Int32), j3 z2 = some A0 → Fc pC A A0 := by
    intro z2 h
    subst ej3
    obtain ⟨j7, ej7, h⟩ := bd_e h
    have kj7 : ∀ (z6 : Int32), j7 z6 = some A0 → Fc pC A A0 := by
      intro z6 h
      subst ej7
      by_cases c_8 : z6 = (-1)
      · have h := ip c_8 h
        obtain ⟨hk15, h⟩ := gk h
        obtain ⟨hk16, h⟩ := gk h
        obtain ⟨hn17, h⟩ := gk h
        obtain ⟨A18, eA18, h⟩ := bd_e h
        have fA18 : Fc pC A A18 := by rw [eA18]; exact Fc_up fA (Nat.not_le.mpr hk16.1)
        cases h; exact fA18
      · have h := iN c_8 h
        obtain ⟨hk9, h⟩ := gk h
        obtain ⟨hn10, h⟩ := gk h
        obtain ⟨A11, eA11, h⟩ := bd_e h
        have fA11 : Fc pC A A11 := by rw [eA11]; exact Fc_up fA (Nat.not_le.mpr hk9.1)
        obtain ⟨hn12, h⟩ := gk h
        obtain ⟨A13, eA13, h⟩ := bd_e h
        have fA13 : Fc pC A A13 := by rw [eA13]; exact Fc_up fA11 (show ¬ 318 ≤ 15 by decide)
        obtain ⟨A14, eA14, h⟩ := bd_e h
        have fA14 : Fc pC A A14 := by rw [eA14]; exact Fc_up fA13 (show ¬ 318 ≤ 16 by decide)
        cases h; exact fA14
    by_cases c_19 : z2 = 0
    · have h := ip c_19 h
      obtain ⟨r20, hc21, h⟩ := Option.bind_eq_some_iff.mp h
      exact kj7 r20 h
    · have h := iN c_19 h
      exact kj7 (-1) h
  by_cases c_22 : ((I (G 14 0) 10) - (I (G 14 0) 11)) < 30
  · have h := ip c_22 h
    exact kj3 0 h
  · have h := iN c_22 h
    exact kj3 1 h
set_option maxHeartbeats 4000000 in
set_option maxRecDepth 100000 in
theorem fr_X3_replace (G : Nat → Nat → Nat) (A : Nat → Nat → Int32) (a1 : Int32) (A0 : Nat → Nat → Int32) (h : f_X3_replace G A a1 = some A0) : Fc pC A A0 := by
  have fG : Fc pC G G := Fc_rf
  have fA : Fc pC A A := Fc_rf
  rw [f_X3_replace] at h
  obtain ⟨hk1, h⟩ := gk h
  obtain ⟨hn2, h⟩ := gk h
  obtain ⟨hk3, h⟩ := gk h
  obtain ⟨hn4, h⟩ := gk h
  obtain ⟨A5, eA5, h⟩ := bd_e h
  have fA5 : Fc pC A A5 := by rw [eA5]; exact Fc_up fA (Nat.not_le.mpr hk3.1)
  obtain ⟨A6, eA6, h⟩ := bd_e h
  have fA6 : Fc pC A A6 := by rw [eA6]; exact Fc_up fA5 (show ¬ 318 ≤ 15 by decide)
  obtain ⟨hk7, h⟩ := gk h
  obtain ⟨hk8, h⟩ := gk h
  obtain ⟨hn9, h⟩ := gk h
  obtain ⟨A10, eA10, h⟩ := bd_e h
  have fA10 : Fc pC A A10 := by rw [eA10]; exact Fc_up fA6 (Nat.not_le.mpr hk8.1)
  cases h; exact fA10
set_option maxHeartbeats 4000000 in
set_option maxRecDepth 100000 in
theorem fr_X3_walkOn (I : Nat → Nat → Int32) (G : Nat → Nat → Nat) (A : Nat → Nat → Int32) (L : Nat → Nat → Int64) (r0 : Int32) (I0 : Nat → Nat → Int32) (A0 : Nat → Nat → Int32) (h : f_X3_walkOn I G A L = some (r0, I0, A0)) : Fc pC I I0 ∧ Fc pC A A0 := by
  have fI : Fc pC I I := Fc_rf
  have fG : Fc pC G G := Fc_rf
  have fA : Fc pC A A := Fc_rf
  have fL : Fc pC L L := Fc_rf
  rw [f_X3_walkOn] at h
  obtain ⟨k5, ek5, h⟩ := bd_e h
  have kk5 : ∀ (I6 : Nat → Nat → Int32) (A7 : Nat → Nat → Int32), k5 I6 A7 = some (r0, I0, A0) → Fc pC I I6 → Fc pC A A7 → Fc pC I I0 ∧ Fc pC A A0 := by
    intro I6 A7 h fI6 fA7
    subst ek5
    cases h; exact ⟨fI6, fA7⟩
  obtain ⟨k8, ek8, h⟩ := bd_e h
  have kk8 : ∀ (I9 : Nat → Nat → Int32) (A10 : Nat → Nat → Int32), k8 I9 A10 = some (r0, I0, A0) → Fc pC I I9 → Fc pC A A10 → Fc pC I I0 ∧ Fc pC A A0 := by
    intro I9 A10 h fI9 fA10
    subst ek8
    cases h; exact ⟨fI9, fA10⟩
  obtain ⟨k11, ek11, h⟩ := bd_e h
  have kk11 : ∀ (I12 : Nat → Nat → Int32) (A13 : Nat → Nat → Int32), k11 I12 A13 = some (r0, I0, A0) → Fc pC I I12 → Fc pC A A13 → Fc pC I I0 ∧ Fc pC A A0 := by
    intro I12 A13 h fI12 fA13
    subst ek11
    cases h; exact ⟨fI12, fA13⟩
  obtain ⟨k14, ek14, h⟩ := bd_e h
  have kk14 : ∀ (I15 : Nat → Nat → Int32) (A16 : Nat → Nat → Int32), k14 I15 A16 = some (r0, I0, A0) → Fc pC I I15 → Fc pC A A16 → Fc pC I I0 ∧ Fc pC A A0 := by
    intro I15 A16 h fI15 fA16
    subst ek14
    cases h; exact ⟨fI15, fA16⟩
  obtain ⟨k17, ek17, h⟩ := bd_e h
  have kk17 : ∀ (I18 : Nat → Nat → Int32) (A19 : Nat → Nat → Int32), k17 I18 A19 = some (r0, I0, A0) → Fc pC I I18 → Fc pC A A19 → Fc pC I I0 ∧ Fc pC A A0 := by
    intro I18 A19 h fI18 fA19
    subst ek17
    cases h; exact ⟨fI18, fA19⟩
  obtain ⟨k20, ek20, h⟩ := bd_e h
  have kk20 : ∀ (I21 : Nat → Nat → Int32) (A22 : Nat → Nat → Int32), k20 I21 A22 = some (r0, I0, A0) → Fc pC I I21 → Fc pC A A22 → Fc pC I I0 ∧ Fc pC A A0 := by
    intro I21 A22 h fI21 fA22
    subst ek20
    cases h; exact ⟨fI21, fA22⟩
  have lp1 : ∀ (n : Nat) (v2 : Int32) (I3 : Nat → Nat → Int32) (A4 : Nat → Nat → Int32), f_X3_walkOn_L2 G L k5 k8 k11 k14 k17 k20 n v2 I3 A4 = some (r0, I0, A0) → Fc pC I I3 → Fc pC A A4 → Fc pC I I0 ∧ Fc pC A A0 := by
    intro n
    induction n with
    | zero => intro v2 I3 A4 h; exact absurd h (by rw [f_X3_walkOn_L2]; exact nofun)
    | succ n ih1 =>
      intro v2 I3 A4 h fI3 fA4
      rw [f_X3_walkOn_L2] at h
      by_cases c_23 : v2 < 250
      · have h := ip c_23 h
        obtain ⟨hk24, h⟩ := gk h
        obtain ⟨r25, hc26, h⟩ := Option.bind_eq_some_iff.mp h
        by_cases c_27 : r25 = (-1)
        · have h := ip c_27 h
          exact kk5 I3 A4 h fI3 fA4
        · have h := iN c_27 h
          obtain ⟨hk28, h⟩ := gk h
          obtain ⟨hn29, h⟩ := gk h
          by_cases c_30 : (A4 (G 14 0 + 5) r25.toNatClampNeg) = 2
          · have h := ip c_30 h
            obtain ⟨⟨I31, A32⟩, hc33, h⟩ := Option.bind_eq_some_iff.mp h
            have fI31 : Fc pC I I31 := Fc_tr fI3 (fr_X5_take I3 G A4 (G 14 0) r25 I31 A32 hc33).1
            have fA32 : Fc pC A A32 := Fc_tr fA4 (fr_X5_take I3 G A4 (G 14 0) r25 I31 A32 hc33).2
            obtain ⟨r34, hc35, h⟩ := Option.bind_eq_some_iff.mp h
            by_cases c_36 : r34 = 0
            · have h := ip c_36 h
              by_cases c_37 : (I31 (G 14 0) 11) < 250
              · have h := ip c_37 h
                by_cases c_38 : (I31 (G 14 0) 11) = (I31 14 2)
                · have h := ip c_38 h
                  exact kk17 I31 A32 h fI31 fA32
                · have h := iN c_38 h
                  exact ih1 (v2 + 1) I31 A32 h fI31 fA32
              · have h := iN c_37 h
                exact kk14 I31 A32 h fI31 fA32
            · have h := iN c_36 h
              exact kk11 I31 A32 h fI31 fA32
          · have h := iN c_30 h
            exact kk8 I3 A4 h fI3 fA4
      · have h := iN c_23 h
        exact kk20 I3 A4 h fI3 fA4
  exact lp1 FU 0 I A h fI fA
set_option maxHeartbeats 4000000 in
set_option maxRecDepth 100000 in
theorem fr_X5_finish (I : Nat → Nat → Int32) (G : Nat → Nat → Nat) (A : Nat → Nat → Int32) (L : Nat → Nat → Int64) (o : Nat) (a1 : Int32) (a2 : Int32) (I0 : Nat → Nat → Int32) (A0 : Nat → Nat → Int32) (L0 : Nat → Nat → Int64) (h : f_X5_finish I G A L o a1 a2 = some (I0, A0, L0)) : Fc pC I I0 ∧ Fc pC A A0 ∧ Fc pC L L0 := by
  have fI : Fc pC I I := Fc_rf
  have fG : Fc pC G G := Fc_rf
  have fA : Fc pC A A := Fc_rf
  have fL : Fc pC L L := Fc_rf
  rw [f_X5_finish] at h
  obtain ⟨hk1, h⟩ := gk h
  obtain ⟨hk2, h⟩ := gk h
  obtain ⟨hn3, h⟩ := gk h
  obtain ⟨A4, eA4, h⟩ := bd_e h
  have fA4 : Fc pC A A4 := by rw [eA4]; exact Fc_up fA (Nat.not_le.mpr hk2.1)
  obtain ⟨hk5, h⟩ := gk h
  obtain ⟨hn6, h⟩ := gk h
  obtain ⟨A7, eA7, h⟩ := bd_e h
  have fA7 : Fc pC A A7 := by rw [eA7]; exact Fc_up fA4 (Nat.not_le.mpr hk5.1)
  obtain ⟨I8, eI8, h⟩ := bd_e h
  have fI8 : Fc pC I I8 := by rw [eI8]; exact Fc_up fI (Nat.not_le.mpr hk1.1)
  obtain ⟨r9, hc10, h⟩ := Option.bind_eq_some_iff.mp h
  by_cases c_11 : r9 = 0
  · have h := ip c_11 h
    obtain ⟨hk12, h⟩ := gk h
    obtain ⟨hn13, h⟩ := gk h
    obtain ⟨hk14, h⟩ := gk h
    obtain ⟨hn15, h⟩ := gk h
    obtain ⟨A16, hc17, h⟩ := Option.bind_eq_some_iff.mp h
    have fA16 : Fc pC A A16 := Fc_tr fA7 (fr_J7_fill_53178 A7 (o + 10) (-1) A16 hc17)
    obtain ⟨A18, hc19, h⟩ := Option.bind_eq_some_iff.mp h
    have fA18 : Fc pC A A18 := Fc_tr fA16 (fr_X5_copyValues A16 L o a1 (o + 10) 0 A18 hc19)
    obtain ⟨hk20, h⟩ := gk h
    obtain ⟨hn21, h⟩ := gk h
    obtain ⟨A22, eA22, h⟩ := bd_e h
    have fA22 : Fc pC A A22 := by rw [eA22]; exact Fc_up fA18 (Nat.not_le.mpr hk20.1)
    obtain ⟨k30, ek30, h⟩ := bd_e h
    have kk30 : ∀ (I31 : Nat → Nat → Int32) (A32 : Nat → Nat → Int32) (L33 : Nat → Nat → Int64), k30 I31 A32 L33 = some (I0, A0, L0) → Fc pC I I31 → Fc pC A A32 → Fc pC L L33 → Fc pC I I0 ∧ Fc pC A A0 ∧ Fc pC L L0 := by
      intro I31 A32 L33 h fI31 fA32 fL33
      subst ek30
      cases h; exact ⟨fI31, fA32, fL33⟩
    have lp23 : ∀ (n : Nat) (v24 : Int32) (v25 : Int64) (v26 : Int32) (I27 : Nat → Nat → Int32) (A28 : Nat → Nat → Int32) (L29 : Nat → Nat → Int64), f_X5_finish_L85 o G k30 n v24 v25 v26 I27 A28 L29 = some (I0, A0, L0) → Fc pC I I27 → Fc pC A A28 → Fc pC L L29 → Fc pC I I0 ∧ Fc pC A A0 ∧ Fc pC L L0 := by
      intro n
      induction n with
      | zero => intro v24 v25 v26 I27 A28 L29 h; exact absurd h (by rw [f_X5_finish_L85]; exact nofun)
      | succ n ih23 =>
        intro v24 v25 v26 I27 A28 L29 h fI27 fA28 fL29
        rw [f_X5_finish_L85] at h
        obtain ⟨hk34, h⟩ := gk h
        obtain ⟨hk35, h⟩ := gk h
        obtain ⟨hn36, h⟩ := gk h
        by_cases c_37 : v24 < (A28 (G o 14 + 1) v26.toNatClampNeg)
        · have h := ip c_37 h
          by_cases c_38 : (I27 o 9) < (nI (ln (o + 1)))
          · have h := ip c_38 h
            obtain ⟨hk39, h⟩ := gk h
            obtain ⟨hn40, h⟩ := gk h
            obtain ⟨A41, eA41, h⟩ := bd_e h
            have fA41 : Fc pC A A41 := by rw [eA41]; exact Fc_up fA28 (Nat.not_le.mpr hk39.1)
            obtain ⟨hk42, h⟩ := gk h
            obtain ⟨I43, hc44, h⟩ := Option.bind_eq_some_iff.mp h
            have fI43 : Fc pC I I43 := Fc_tr fI27 (fr_X0_look I27 A41 (o + 11) (G o 14) (o + 10) (v26 + 1) (I27 o 15) I43 hc44)
            obtain ⟨r45, hc46, h⟩ := Option.bind_eq_some_iff.mp h
            obtain ⟨⟨I47, A48, L49⟩, hc50, h⟩ := Option.bind_eq_some_iff.mp h
            have fI47 : Fc pC I I47 := Fc_tr fI43 (fr_X5_addJudged I43 A41 L29 o (v26 + 1) (v25 ||| (((v24 + 1).toInt64) <<< (r45.toInt64 &&& 63))) I47 A48 L49 hc50).1
            have fA48 : Fc pC A A48 := Fc_tr fA41 (fr_X5_addJudged I43 A41 L29 o (v26 + 1) (v25 ||| (((v24 + 1).toInt64) <<< (r45.toInt64 &&& 63))) I47 A48 L49 hc50).2.1
            have fL49 : Fc pC L L49 := Fc_tr fL29 (fr_X5_addJudged I43 A41 L29 o (v26 + 1) (v25 ||| (((v24 + 1).toInt64) <<< (r45.toInt64 &&& 63))) I47 A48 L49 hc50).2.2
            exact ih23 (v24 + 1) v25 v26 I47 A48 L49 h fI47 fA48 fL49
          · have h := iN c_38 h
            exact kk30 I27 A28 L29 h fI27 fA28 fL29
        · have h := iN c_37 h
          exact kk30 I27 A28 L29 h fI27 fA28 fL29
    exact lp23 FU 0 ((L (o + 1) a1.toNatClampNeg) &&& 262143) (A7 (o + 2) a1.toNatClampNeg) I8 A22 L h fI8 fA22 fL
  · have h := iN c_11 h
    cases h; exact ⟨fI8, fA7, fL⟩
set_option maxHeartbeats 4000000 in
set_option maxRecDepth 100000 in
theorem fr_X3_takeTurn (I : Nat → Nat → Int32) (G : Nat → Nat → Nat) (A : Nat → Nat → Int32) (L : Nat → Nat → Int64) (r0 : Int32) (I0 : Nat → Nat → Int32) (A0 : Nat → Nat → Int32) (L0 : Nat → Nat → Int64) (h : f_X3_takeTurn I G A L = some (r0, I0, A0, L0)) : Fc pC I I0 ∧ Fc pC A A0 ∧ Fc pC L L0 := by
  have fI : Fc pC I I := Fc_rf
  have fG : Fc pC G G := Fc_rf
  have fA : Fc pC A A := Fc_rf
  have fL : Fc pC L L := Fc_rf
  rw [f_X3_takeTurn] at h
  obtain ⟨hk1, h⟩ := gk h
  obtain ⟨r2, hc3, h⟩ := Option.bind_eq_some_iff.mp h
  obtain ⟨I4, eI4, h⟩ := bd_e h
  have fI4 : Fc pC I I4 := by rw [eI4]; exact Fc_up fI (show ¬ 318 ≤ 14 by decide)
  obtain ⟨hn5, h⟩ := gk h
  by_cases c_6 : (A 15 r2.toNatClampNeg) = (-1)
  · have h := ip c_6 h
    obtain ⟨A29, hc30, h⟩ := Option.bind_eq_some_iff.mp h
    have fA29 : Fc pC A A29 := Fc_tr fA (fr_X3_pick I4 G A L r2 A29 hc30)
    obtain ⟨⟨r31, I32, A33⟩, hc34, h⟩ := Option.bind_eq_some_iff.mp h
    have fI32 : Fc pC I I32 := Fc_tr fI4 (fr_X3_walkOn I4 G A29 L r31 I32 A33 hc34).1
    have fA33 : Fc pC A A33 := Fc_tr fA29 (fr_X3_walkOn I4 G A29 L r31 I32 A33 hc34).2
    cases h; exact ⟨fI32, fA33, fL⟩
  · have h := iN c_6 h
    obtain ⟨hk7, h⟩ := gk h
    obtain ⟨hn8, h⟩ := gk h
    by_cases c_9 : (A 16 r2.toNatClampNeg) = (A (G 14 1 + 1) r2.toNatClampNeg)
    · have h := ip c_9 h
      obtain ⟨A23, hc24, h⟩ := Option.bind_eq_some_iff.mp h
      have fA23 : Fc pC A A23 := Fc_tr fA (fr_X3_replace G A r2 A23 hc24)
      obtain ⟨⟨r25, I26, A27⟩, hc28, h⟩ := Option.bind_eq_some_iff.mp h
      have fI26 : Fc pC I I26 := Fc_tr fI4 (fr_X3_walkOn I4 G A23 L r25 I26 A27 hc28).1
      have fA27 : Fc pC A A27 := Fc_tr fA23 (fr_X3_walkOn I4 G A23 L r25 I26 A27 hc28).2
      cases h; exact ⟨fI26, fA27, fL⟩
    · have h := iN c_9 h
      obtain ⟨hk10, h⟩ := gk h
      obtain ⟨⟨I11, A12, L13⟩, hc14, h⟩ := Option.bind_eq_some_iff.mp h
      have fI11 : Fc pC I I11 := Fc_tr fI4 (fr_X5_finish I4 G A L (G 14 0) (A 15 r2.toNatClampNeg) r2 I11 A12 L13 hc14).1
      have fA12 : Fc pC A A12 := Fc_tr fA (fr_X5_finish I4 G A L (G 14 0) (A 15 r2.toNatClampNeg) r2 I11 A12 L13 hc14).2.1
      have fL13 : Fc pC L L13 := Fc_tr fL (fr_X5_finish I4 G A L (G 14 0) (A 15 r2.toNatClampNeg) r2 I11 A12 L13 hc14).2.2
      obtain ⟨hk15, h⟩ := gk h
      obtain ⟨hn16, h⟩ := gk h
      obtain ⟨A17, eA17, h⟩ := bd_e h
      have fA17 : Fc pC A A17 := by rw [eA17]; exact Fc_up fA12 (Nat.not_le.mpr hk15.1)
      obtain ⟨A18, eA18, h⟩ := bd_e h
      have fA18 : Fc pC A A18 := by rw [eA18]; exact Fc_up fA17 (show ¬ 318 ≤ 15 by decide)
      obtain ⟨⟨r19, I20, A21⟩, hc22, h⟩ := Option.bind_eq_some_iff.mp h
      have fI20 : Fc pC I I20 := Fc_tr fI11 (fr_X3_walkOn I11 G A18 L13 r19 I20 A21 hc22).1
      have fA21 : Fc pC A A21 := Fc_tr fA18 (fr_X3_walkOn I11 G A18 L13 r19 I20 A21 hc22).2
      cases h; exact ⟨fI20, fA21, fL13⟩
set_option maxHeartbeats 4000000 in
set_option maxRecDepth 100000 in
theorem fr_X6_same (I : Nat → Nat → Int32) (G : Nat → Nat → Nat) (A : Nat → Nat → Int32) (L : Nat → Nat → Int64) (a1 : Int32) (a2 : Int32) (r0 : Int32) (I0 : Nat → Nat → Int32) (G0 : Nat → Nat → Nat) (A0 : Nat → Nat → Int32) (L0 : Nat → Nat → Int64) (h : f_X6_same I G A L a1 a2 = some (r0, I0, G0, A0, L0)) : Fc pC I I0 ∧ Fc pC G G0 ∧ Fc pC A A0 ∧ Fc pC L L0 := by
  have fI : Fc pC I I := Fc_rf
  have fG : Fc pC G G := Fc_rf
  have fA : Fc pC A A := Fc_rf
  have fL : Fc pC L L := Fc_rf
  rw [f_X6_same] at h
  obtain ⟨r1, hc2, h⟩ := Option.bind_eq_some_iff.mp h
  by_cases c_3 : r1 = 0
  · have h := ip c_3 h
    cases h; exact ⟨fI, fG, fA, fL⟩
  · have h := iN c_3 h
    obtain ⟨r4, hc5, h⟩ := Option.bind_eq_some_iff.mp h
    by_cases c_6 : r4 = 0
    · have h := ip c_6 h
      cases h; exact ⟨fI, fG, fA, fL⟩
    · have h := iN c_6 h
      by_cases c_7 : (I 0 5) = (-9)
      · have h := ip c_7 h
        obtain ⟨k14, ek14, h⟩ := bd_e h
        have kk14 : ∀ (I15 : Nat → Nat → Int32) (G16 : Nat → Nat → Nat) (A17 : Nat → Nat → Int32) (L18 : Nat → Nat → Int64), k14 I15 G16 A17 L18 = some (r0, I0, G0, A0, L0) → Fc pC I I15 → Fc pC G G16 → Fc pC A A17 → Fc pC L L18 → Fc pC I I0 ∧ Fc pC G G0 ∧ Fc pC A A0 ∧ Fc pC L L0 := by
          intro I15 G16 A17 L18 h fI15 fG16 fA17 fL18
          subst ek14
          obtain ⟨r19, hc20, h⟩ := Option.bind_eq_some_iff.mp h
          obtain ⟨r21, hc22, h⟩ := Option.bind_eq_some_iff.mp h
          cases h; exact ⟨fI15, fG16, fA17, fL18⟩
        have lp8 : ∀ (n : Nat) (v9 : Int32) (I10 : Nat → Nat → Int32) (G11 : Nat → Nat → Nat) (A12 : Nat → Nat → Int32) (L13 : Nat → Nat → Int64), f_X6_same_L33 a1 a2 k14 n v9 I10 G11 A12 L13 = some (r0, I0, G0, A0, L0) → Fc pC I I10 → Fc pC G G11 → Fc pC A A12 → Fc pC L L13 → Fc pC I I0 ∧ Fc pC G G0 ∧ Fc pC A A0 ∧ Fc pC L L0 := by
          intro n
          induction n with
          | zero => intro v9 I10 G11 A12 L13 h; exact absurd h (by rw [f_X6_same_L33]; exact nofun)
          | succ n ih8 =>
            intro v9 I10 G11 A12 L13 h fI10 fG11 fA12 fL13
            rw [f_X6_same_L33] at h
            by_cases c_23 : v9 < 2
            · have h := ip c_23 h
              obtain ⟨j25, ej25, h⟩ := bd_e h
              have kj25 : ∀ (z24 : Int32), j25 z24 = some (r0, I0, G0, A0, L0) → Fc pC I I0 ∧ Fc pC G G0 ∧ Fc pC A A0 ∧ Fc pC L L0 := by
                intro z24 h
                subst ej25
                obtain ⟨⟨I26, A27⟩, hc28, h⟩ := Option.bind_eq_some_iff.mp h
                have fI26 : Fc pC I I26 := Fc_tr fI10 (fr_X4_become I10 A12 8 z24 I26 A27 hc28).1
                have fA27 : Fc pC A A27 := Fc_tr fA12 (fr_X4_become I10 A12 8 z24 I26 A27 hc28).2
                obtain ⟨hn29, h⟩ := gk h
                obtain ⟨⟨r30, I31, G32, A33, L34⟩, hc35, h⟩ := Option.bind_eq_some_iff.mp h
                have fI31 : Fc pC I I31 := Fc_tr fI26 (fr_X3_begin I26 G11 A27 L13 (58 + 52 * a1.toNatClampNeg) 8 (I26 0 3) r30 I31 G32 A33 L34 hc35).1
                have fG32 : Fc pC G G32 := Fc_tr fG11 (fr_X3_begin I26 G11 A27 L13 (58 + 52 * a1.toNatClampNeg) 8 (I26 0 3) r30 I31 G32 A33 L34 hc35).2.1
                have fA33 : Fc pC A A33 := Fc_tr fA27 (fr_X3_begin I26 G11 A27 L13 (58 + 52 * a1.toNatClampNeg) 8 (I26 0 3) r30 I31 G32 A33 L34 hc35).2.2.1
                have fL34 : Fc pC L L34 := Fc_tr fL13 (fr_X3_begin I26 G11 A27 L13 (58 + 52 * a1.toNatClampNeg) 8 (I26 0 3) r30 I31 G32 A33 L34 hc35).2.2.2
                obtain ⟨k42, ek42, h⟩ := bd_e h
                have kk42 : ∀ (v43 : Int32) (I44 : Nat → Nat → Int32) (A45 : Nat → Nat → Int32) (L46 : Nat → Nat → Int64), k42 v43 I44 A45 L46 = some (r0, I0, G0, A0, L0) → Fc pC I I44 → Fc pC A A45 → Fc pC L L46 → Fc pC I I0 ∧ Fc pC G G0 ∧ Fc pC A A0 ∧ Fc pC L L0 := by
                  intro v43 I44 A45 L46 h fI44 fA45 fL46
                  subst ek42
                  by_cases c_47 : v9 = 0
                  · have h := ip c_47 h
                    obtain ⟨A50, hc51, h⟩ := Option.bind_eq_some_iff.mp h
                    have fA50 : Fc pC A A50 := Fc_tr fA45 (fr_X3_sumUp I44 G32 A45 L46 v43 20 A50 hc51)
                    exact ih8 (v9 + 1) I44 G32 A50 L46 h fI44 fG32 fA50 fL46
                  · have h := iN c_47 h
                    obtain ⟨A48, hc49, h⟩ := Option.bind_eq_some_iff.mp h
                    have fA48 : Fc pC A A48 := Fc_tr fA45 (fr_X3_sumUp I44 G32 A45 L46 v43 21 A48 hc49)
                    exact ih8 (v9 + 1) I44 G32 A48 L46 h fI44 fG32 fA48 fL46
                have lp36 : ∀ (n : Nat) (v37 : Int32) (v38 : Int32) (I39 : Nat → Nat → Int32) (A40 : Nat → Nat → Int32) (L41 : Nat → Nat → Int64), f_X6_same_L80 v9 a1 a2 G32 k42 n v37 v38 I39 A40 L41 = some (r0, I0, G0, A0, L0) → Fc pC I I39 → Fc pC A A40 → Fc pC L L41 → Fc pC I I0 ∧ Fc pC G G0 ∧ Fc pC A A0 ∧ Fc pC L L0 := by
                  intro n
                  induction n with
                  | zero => intro v37 v38 I39 A40 L41 h; exact absurd h (by rw [f_X6_same_L80]; exact nofun)
                  | succ n ih36 =>
                    intro v37 v38 I39 A40 L41 h fI39 fA40 fL41
                    rw [f_X6_same_L80] at h
                    by_cases c_52 : v37 < 1000000
                    · have h := ip c_52 h
                      by_cases c_53 : v38 = 0
                      · have h := ip c_53 h
                        obtain ⟨⟨r54, I55, A56, L57⟩, hc58, h⟩ := Option.bind_eq_some_iff.mp h
                        have fI55 : Fc pC I I55 := Fc_tr fI39 (fr_X3_takeTurn I39 G32 A40 L41 r54 I55 A56 L57 hc58).1
                        have fA56 : Fc pC A A56 := Fc_tr fA40 (fr_X3_takeTurn I39 G32 A40 L41 r54 I55 A56 L57 hc58).2.1
                        have fL57 : Fc pC L L57 := Fc_tr fL41 (fr_X3_takeTurn I39 G32 A40 L41 r54 I55 A56 L57 hc58).2.2
                        exact ih36 (v37 + 1) r54 I55 A56 L57 h fI55 fA56 fL57
                      · have h := iN c_53 h
                        exact kk42 v38 I39 A40 L41 h fI39 fA40 fL41
                    · have h := iN c_52 h
                      exact kk42 v38 I39 A40 L41 h fI39 fA40 fL41
                exact lp36 FU 0 r30 I31 A33 L34 h fI31 fA33 fL34
              by_cases c_59 : v9 = 0
              · have h := ip c_59 h
                exact kj25 1 h
              · have h := iN c_59 h
                exact kj25 a2 h
            · have h := iN c_23 h
              exact kk14 I10 G11 A12 L13 h fI10 fG11 fA12 fL13
        exact lp8 FU 0 I G A L h fI fG fA fL
      · have h := iN c_7 h
        cases h; exact ⟨fI, fG, fA, fL⟩
set_option maxHeartbeats 4000000 in
set_option maxRecDepth 100000 in
theorem fr_X6_second (I : Nat → Nat → Int32) (G : Nat → Nat → Nat) (A : Nat → Nat → Int32) (L : Nat → Nat → Int64) (a1 : Int32) (a2 : Int32) (r0 : Int32) (I0 : Nat → Nat → Int32) (G0 : Nat → Nat → Nat) (A0 : Nat → Nat → Int32) (L0 : Nat → Nat → Int64) (h : f_X6_second I G A L a1 a2 = some (r0, I0, G0, A0, L0)) : Fc pC I I0 ∧ Fc pC G G0 ∧ Fc pC A A0 ∧ Fc pC L L0 := by
  have fI : Fc pC I I := Fc_rf
  have fG : Fc pC G G := Fc_rf
  have fA : Fc pC A A := Fc_rf
  have fL : Fc pC L L := Fc_rf
  rw [f_X6_second] at h
  obtain ⟨r1, hc2, h⟩ := Option.bind_eq_some_iff.mp h
  by_cases c_3 : r1 = 0
  · have h := ip c_3 h
    cases h; exact ⟨fI, fG, fA, fL⟩
  · have h := iN c_3 h
    obtain ⟨r4, hc5, h⟩ := Option.bind_eq_some_iff.mp h
    by_cases c_6 : r4 = 0
    · have h := ip c_6 h
      cases h; exact ⟨fI, fG, fA, fL⟩
    · have h := iN c_6 h
      obtain ⟨A7, hc8, h⟩ := Option.bind_eq_some_iff.mp h
      have fA7 : Fc pC A A7 := Fc_tr fA (fr_J7_fill_53178 A 19 (-9) A7 hc8)
      obtain ⟨hn9, h⟩ := gk h
      obtain ⟨⟨I10, G11, A12, L13⟩, hc14, h⟩ := Option.bind_eq_some_iff.mp h
      have fI10 : Fc pC I I10 := Fc_tr fI (fr_X5_plant I G A7 L 46 (58 + 52 * a1.toNatClampNeg) 0 I10 G11 A12 L13 hc14).1
      have fG11 : Fc pC G G11 := Fc_tr fG (fr_X5_plant I G A7 L 46 (58 + 52 * a1.toNatClampNeg) 0 I10 G11 A12 L13 hc14).2.1
      have fA12 : Fc pC A A12 := Fc_tr fA7 (fr_X5_plant I G A7 L 46 (58 + 52 * a1.toNatClampNeg) 0 I10 G11 A12 L13 hc14).2.2.1
      have fL13 : Fc pC L L13 := Fc_tr fL (fr_X5_plant I G A7 L 46 (58 + 52 * a1.toNatClampNeg) 0 I10 G11 A12 L13 hc14).2.2.2
      obtain ⟨k21, ek21, h⟩ := bd_e h
      have kk21 : ∀ (I22 : Nat → Nat → Int32) (A23 : Nat → Nat → Int32) (L24 : Nat → Nat → Int64), k21 I22 A23 L24 = some (r0, I0, G0, A0, L0) → Fc pC I I22 → Fc pC A A23 → Fc pC L L24 → Fc pC I I0 ∧ Fc pC G G0 ∧ Fc pC A A0 ∧ Fc pC L L0 := by
        intro I22 A23 L24 h fI22 fA23 fL24
        subst ek21
        cases h; exact ⟨fI22, fG11, fA23, fL24⟩
      obtain ⟨k25, ek25, h⟩ := bd_e h
      have kk25 : ∀ (v26 : Int32) (I27 : Nat → Nat → Int32) (A28 : Nat → Nat → Int32) (L29 : Nat → Nat → Int64), k25 v26 I27 A28 L29 = some (r0, I0, G0, A0, L0) → Fc pC I I27 → Fc pC A A28 → Fc pC L L29 → Fc pC I I0 ∧ Fc pC G G0 ∧ Fc pC A A0 ∧ Fc pC L L0 := by
        intro v26 I27 A28 L29 h fI27 fA28 fL29
        subst ek25
        obtain ⟨A30, hc31, h⟩ := Option.bind_eq_some_iff.mp h
        have fA30 : Fc pC A A30 := Fc_tr fA28 (fr_X5_copyValues A28 L29 46 v26 19 0 A30 hc31)
        obtain ⟨r32, hc33, h⟩ := Option.bind_eq_some_iff.mp h
        cases h; exact ⟨fI27, fG11, fA30, fL29⟩
      obtain ⟨k34, ek34, h⟩ := bd_e h
      have kk34 : ∀ (I35 : Nat → Nat → Int32) (A36 : Nat → Nat → Int32) (L37 : Nat → Nat → Int64), k34 I35 A36 L37 = some (r0, I0, G0, A0, L0) → Fc pC I I35 → Fc pC A A36 → Fc pC L L37 → Fc pC I I0 ∧ Fc pC G G0 ∧ Fc pC A A0 ∧ Fc pC L L0 := by
        intro I35 A36 L37 h fI35 fA36 fL37
        subst ek34
        obtain ⟨r38, hc39, h⟩ := Option.bind_eq_some_iff.mp h
        by_cases c_40 : r38 = (-1)
        · have h := ip c_40 h
          cases h; exact ⟨fI35, fG11, fA36, fL37⟩
        · have h := iN c_40 h
          cases h; exact ⟨fI35, fG11, fA36, fL37⟩
      have lp15 : ∀ (n : Nat) (v16 : Int32) (v17 : Int32) (I18 : Nat → Nat → Int32) (A19 : Nat → Nat → Int32) (L20 : Nat → Nat → Int64), f_X6_second_L50 G11 k21 k25 k34 n v16 v17 I18 A19 L20 = some (r0, I0, G0, A0, L0) → Fc pC I I18 → Fc pC A A19 → Fc pC L L20 → Fc pC I I0 ∧ Fc pC G G0 ∧ Fc pC A A0 ∧ Fc pC L L0 := by
        intro n
        induction n with
        | zero => intro v16 v17 I18 A19 L20 h; exact absurd h (by rw [f_X6_second_L50]; exact nofun)
        | succ n ih15 =>
          intro v16 v17 I18 A19 L20 h fI18 fA19 fL20
          rw [f_X6_second_L50] at h
          by_cases c_41 : v16 < 250
          · have h := ip c_41 h
            obtain ⟨r42, hc43, h⟩ := Option.bind_eq_some_iff.mp h
            by_cases c_44 : r42 = (-1)
            · have h := ip c_44 h
              exact kk21 I18 A19 L20 h fI18 fA19 fL20
            · have h := iN c_44 h
              obtain ⟨⟨I45, A46, L47⟩, hc48, h⟩ := Option.bind_eq_some_iff.mp h
              have fI45 : Fc pC I I45 := Fc_tr fI18 (fr_X5_finish I18 G11 A19 L20 46 r42 0 I45 A46 L47 hc48).1
              have fA46 : Fc pC A A46 := Fc_tr fA19 (fr_X5_finish I18 G11 A19 L20 46 r42 0 I45 A46 L47 hc48).2.1
              have fL47 : Fc pC L L47 := Fc_tr fL20 (fr_X5_finish I18 G11 A19 L20 46 r42 0 I45 A46 L47 hc48).2.2
              obtain ⟨⟨I49, A50⟩, hc51, h⟩ := Option.bind_eq_some_iff.mp h
              have fI49 : Fc pC I I49 := Fc_tr fI45 (fr_X5_take I45 G11 A46 46 r42 I49 A50 hc51).1
              have fA50 : Fc pC A A50 := Fc_tr fA46 (fr_X5_take I45 G11 A46 46 r42 I49 A50 hc51).2
              obtain ⟨r52, hc53, h⟩ := Option.bind_eq_some_iff.mp h
              by_cases c_54 : r52 = 0
              · have h := ip c_54 h
                exact ih15 (v16 + 1) v17 I49 A50 L47 h fI49 fA50 fL47
              · have h := iN c_54 h
                by_cases c_55 : v17 = 0
                · have h := ip c_55 h
                  exact kk25 r42 I49 A50 L47 h fI49 fA50 fL47
                · have h := iN c_55 h
                  exact ih15 (v16 + 1) (v17 + (-1)) I49 A50 L47 h fI49 fA50 fL47
          · have h := iN c_41 h
            exact kk34 I18 A19 L20 h fI18 fA19 fL20
      exact lp15 FU 0 a2 I10 A12 L13 h fI10 fA12 fL13
set_option maxHeartbeats 4000000 in
set_option maxRecDepth 100000 in
theorem fr_X6_solve (I : Nat → Nat → Int32) (G : Nat → Nat → Nat) (A : Nat → Nat → Int32) (L : Nat → Nat → Int64) (a1 : Int32) (a2 : Int32) (r0 : Int32) (I0 : Nat → Nat → Int32) (G0 : Nat → Nat → Nat) (A0 : Nat → Nat → Int32) (L0 : Nat → Nat → Int64) (h : f_X6_solve I G A L a1 a2 = some (r0, I0, G0, A0, L0)) : Fc pC I I0 ∧ Fc pC G G0 ∧ Fc pC A A0 ∧ Fc pC L L0 := by
  have fI : Fc pC I I := Fc_rf
  have fG : Fc pC G G := Fc_rf
  have fA : Fc pC A A := Fc_rf
  have fL : Fc pC L L := Fc_rf
  rw [f_X6_solve] at h
  obtain ⟨r1, hc2, h⟩ := Option.bind_eq_some_iff.mp h
  by_cases c_3 : r1 = 0
  · have h := ip c_3 h
    cases h; exact ⟨fI, fG, fA, fL⟩
  · have h := iN c_3 h
    obtain ⟨r4, hc5, h⟩ := Option.bind_eq_some_iff.mp h
    by_cases c_6 : r4 = 0
    · have h := ip c_6 h
      cases h; exact ⟨fI, fG, fA, fL⟩
    · have h := iN c_6 h
      obtain ⟨j8, ej8, h⟩ := bd_e h
      have kj8 : ∀ (_ : Unit), j8 () = some (r0, I0, G0, A0, L0) → Fc pC I I0 ∧ Fc pC G G0 ∧ Fc pC A A0 ∧ Fc pC L L0 := by
        intro _ h
        subst ej8
        obtain ⟨j22, ej22, h⟩ := bd_e h
        have kj22 : ∀ (v17 : Int32) (I18 : Nat → Nat → Int32) (G19 : Nat → Nat → Nat) (A20 : Nat → Nat → Int32) (L21 : Nat → Nat → Int64), j22 v17 I18 G19 A20 L21 = some (r0, I0, G0, A0, L0) → Fc pC I I18 → Fc pC G G19 → Fc pC A A20 → Fc pC L L21 → Fc pC I I0 ∧ Fc pC G G0 ∧ Fc pC A A0 ∧ Fc pC L L0 := by
          intro v17 I18 G19 A20 L21 h fI18 fG19 fA20 fL21
          subst ej22
          obtain ⟨k29, ek29, h⟩ := bd_e h
          have kk29 : ∀ (v30 : Int32) (I31 : Nat → Nat → Int32) (A32 : Nat → Nat → Int32) (L33 : Nat → Nat → Int64), k29 v30 I31 A32 L33 = some (r0, I0, G0, A0, L0) → Fc pC I I31 → Fc pC A A32 → Fc pC L L33 → Fc pC I I0 ∧ Fc pC G G0 ∧ Fc pC A A0 ∧ Fc pC L L0 := by
            intro v30 I31 A32 L33 h fI31 fA32 fL33
            subst ek29
            by_cases c_34 : v30 = 0
            · have h := ip c_34 h
              cases h; exact ⟨fI31, fG19, fA32, fL33⟩
            · have h := iN c_34 h
              obtain ⟨⟨I35, G36, A37⟩, hc38, h⟩ := Option.bind_eq_some_iff.mp h
              have fI35 : Fc pC I I35 := Fc_tr fI31 (fr_X6_endSolving I31 G19 A32 L33 v30 I35 G36 A37 hc38).1
              have fG36 : Fc pC G G36 := Fc_tr fG19 (fr_X6_endSolving I31 G19 A32 L33 v30 I35 G36 A37 hc38).2.1
              have fA37 : Fc pC A A37 := Fc_tr fA32 (fr_X6_endSolving I31 G19 A32 L33 v30 I35 G36 A37 hc38).2.2
              cases h; exact ⟨fI35, fG36, fA37, fL33⟩
          have lp23 : ∀ (n : Nat) (v24 : Int32) (v25 : Int32) (I26 : Nat → Nat → Int32) (A27 : Nat → Nat → Int32) (L28 : Nat → Nat → Int64), f_X6_solve_L82 a2 G19 k29 n v24 v25 I26 A27 L28 = some (r0, I0, G0, A0, L0) → Fc pC I I26 → Fc pC A A27 → Fc pC L L28 → Fc pC I I0 ∧ Fc pC G G0 ∧ Fc pC A A0 ∧ Fc pC L L0 := by
            intro n
            induction n with
            | zero => intro v24 v25 I26 A27 L28 h; exact absurd h (by rw [f_X6_solve_L82]; exact nofun)
            | succ n ih23 =>
              intro v24 v25 I26 A27 L28 h fI26 fA27 fL28
              rw [f_X6_solve_L82] at h
              by_cases c_39 : v24 < a2
              · have h := ip c_39 h
                by_cases c_40 : v25 = 0
                · have h := ip c_40 h
                  obtain ⟨⟨r41, I42, A43, L44⟩, hc45, h⟩ := Option.bind_eq_some_iff.mp h
                  have fI42 : Fc pC I I42 := Fc_tr fI26 (fr_X3_takeTurn I26 G19 A27 L28 r41 I42 A43 L44 hc45).1
                  have fA43 : Fc pC A A43 := Fc_tr fA27 (fr_X3_takeTurn I26 G19 A27 L28 r41 I42 A43 L44 hc45).2.1
                  have fL44 : Fc pC L L44 := Fc_tr fL28 (fr_X3_takeTurn I26 G19 A27 L28 r41 I42 A43 L44 hc45).2.2
                  exact ih23 (v24 + 1) r41 I42 A43 L44 h fI42 fA43 fL44
                · have h := iN c_40 h
                  exact kk29 v25 I26 A27 L28 h fI26 fA27 fL28
              · have h := iN c_39 h
                exact kk29 v25 I26 A27 L28 h fI26 fA27 fL28
          exact lp23 FU 0 v17 I18 A20 L21 h fI18 fA20 fL21
        by_cases c_46 : (I 0 5) = (-9)
        · have h := ip c_46 h
          obtain ⟨I47, eI47, h⟩ := bd_e h
          have fI47 : Fc pC I I47 := by rw [eI47]; exact Fc_up fI (show ¬ 318 ≤ 0 by decide)
          obtain ⟨hn48, h⟩ := gk h
          obtain ⟨⟨r49, I50, G51, A52, L53⟩, hc54, h⟩ := Option.bind_eq_some_iff.mp h
          have fI50 : Fc pC I I50 := Fc_tr fI47 (fr_X3_begin I47 G A L (58 + 52 * a1.toNatClampNeg) 2 (I47 0 3) r49 I50 G51 A52 L53 hc54).1
          have fG51 : Fc pC G G51 := Fc_tr fG (fr_X3_begin I47 G A L (58 + 52 * a1.toNatClampNeg) 2 (I47 0 3) r49 I50 G51 A52 L53 hc54).2.1
          have fA52 : Fc pC A A52 := Fc_tr fA (fr_X3_begin I47 G A L (58 + 52 * a1.toNatClampNeg) 2 (I47 0 3) r49 I50 G51 A52 L53 hc54).2.2.1
          have fL53 : Fc pC L L53 := Fc_tr fL (fr_X3_begin I47 G A L (58 + 52 * a1.toNatClampNeg) 2 (I47 0 3) r49 I50 G51 A52 L53 hc54).2.2.2
          exact kj22 r49 I50 G51 A52 L53 h fI50 fG51 fA52 fL53
        · have h := iN c_46 h
          exact kj22 0 I G A L h fI fG fA fL
      by_cases c_55 : (I 0 5) = (-9)
      · have h := ip c_55 h
        exact kj8 () h
      · have h := iN c_55 h
        by_cases c_56 : (I 0 5) = a1
        · have h := ip c_56 h
          exact kj8 () h
        · have h := iN c_56 h
          cases h; exact ⟨fI, fG, fA, fL⟩
set_option maxHeartbeats 4000000 in
set_option maxRecDepth 100000 in
theorem fr_X6_turn (I : Nat → Nat → Int32) (A : Nat → Nat → Int32) (a1 : Int32) (r0 : Int32) (I0 : Nat → Nat → Int32) (A0 : Nat → Nat → Int32) (h : f_X6_turn I A a1 = some (r0, I0, A0)) : Fc pC I I0 ∧ Fc pC A A0 := by
  have fI : Fc pC I I := Fc_rf
  have fA : Fc pC A A := Fc_rf
  rw [f_X6_turn] at h
  obtain ⟨r1, hc2, h⟩ := Option.bind_eq_some_iff.mp h
  by_cases c_3 : r1 = 0
  · have h := ip c_3 h
    cases h; exact ⟨fI, fA⟩
  · have h := iN c_3 h
    by_cases c_4 : (I 0 5) = (-9)
    · have h := ip c_4 h
      by_cases c_5 : (I 2 1) < 200
      · have h := ip c_5 h
        obtain ⟨hn6, h⟩ := gk h
        obtain ⟨A7, eA7, h⟩ := bd_e h
        have fA7 : Fc pC A A7 := by rw [eA7]; exact Fc_up fA (show ¬ 318 ≤ 4 by decide)
        obtain ⟨I8, eI8, h⟩ := bd_e h
        have fI8 : Fc pC I I8 := by rw [eI8]; exact Fc_up fI (show ¬ 318 ≤ 2 by decide)
        cases h; exact ⟨fI8, fA7⟩
      · have h := iN c_5 h
        cases h; exact ⟨fI, fA⟩
    · have h := iN c_4 h
      cases h; exact ⟨fI, fA⟩
set_option maxHeartbeats 4000000 in
set_option maxRecDepth 100000 in
theorem fr_X1_addVariable (I : Nat → Nat → Int32) (A : Nat → Nat → Int32) (o : Nat) (a1 : Int32) (a2 : Int32) (r0 : Int32) (I0 : Nat → Nat → Int32) (A0 : Nat → Nat → Int32) (h : f_X1_addVariable I A o a1 a2 = some (r0, I0, A0)) : Fc pC I I0 ∧ Fc pC A A0 := by
  have fI : Fc pC I I := Fc_rf
  have fA : Fc pC A A := Fc_rf
  rw [f_X1_addVariable] at h
  obtain ⟨hk1, h⟩ := gk h
  obtain ⟨I2, hc3, h⟩ := Option.bind_eq_some_iff.mp h
  have fI2 : Fc pC I I2 := Fc_tr fI (fr_X1_change I o I2 hc3)
  obtain ⟨hk4, h⟩ := gk h
  obtain ⟨hn5, h⟩ := gk h
  obtain ⟨A6, eA6, h⟩ := bd_e h
  have fA6 : Fc pC A A6 := by rw [eA6]; exact Fc_up fA (Nat.not_le.mpr hk4.1)
  obtain ⟨hk7, h⟩ := gk h
  obtain ⟨hn8, h⟩ := gk h
  obtain ⟨A9, eA9, h⟩ := bd_e h
  have fA9 : Fc pC A A9 := by rw [eA9]; exact Fc_up fA6 (Nat.not_le.mpr hk7.1)
  obtain ⟨I10, eI10, h⟩ := bd_e h
  have fI10 : Fc pC I I10 := by rw [eI10]; exact Fc_up fI2 (Nat.not_le.mpr hk1.1)
  cases h; exact ⟨fI10, fA9⟩
set_option maxHeartbeats 4000000 in
set_option maxRecDepth 100000 in
theorem fr_X6_variable (I : Nat → Nat → Int32) (A : Nat → Nat → Int32) (a1 : Int32) (a2 : Int32) (a3 : Int32) (r0 : Int32) (I0 : Nat → Nat → Int32) (A0 : Nat → Nat → Int32) (h : f_X6_variable I A a1 a2 a3 = some (r0, I0, A0)) : Fc pC I I0 ∧ Fc pC A A0 := by
  have fI : Fc pC I I := Fc_rf
  have fA : Fc pC A A := Fc_rf
  rw [f_X6_variable] at h
  obtain ⟨r1, hc2, h⟩ := Option.bind_eq_some_iff.mp h
  by_cases c_3 : r1 = 0
  · have h := ip c_3 h
    cases h; exact ⟨fI, fA⟩
  · have h := iN c_3 h
    obtain ⟨r4, hc5, h⟩ := Option.bind_eq_some_iff.mp h
    by_cases c_6 : r4 = 0
    · have h := ip c_6 h
      cases h; exact ⟨fI, fA⟩
    · have h := iN c_6 h
      obtain ⟨r7, hc8, h⟩ := Option.bind_eq_some_iff.mp h
      by_cases c_9 : r7 = 0
      · have h := ip c_9 h
        cases h; exact ⟨fI, fA⟩
      · have h := iN c_9 h
        by_cases c_10 : (I 0 5) = (-9)
        · have h := ip c_10 h
          obtain ⟨hn11, h⟩ := gk h
          obtain ⟨hk12, h⟩ := gk h
          by_cases c_13 : (I (58 + 52 * a1.toNatClampNeg) 0) < 6
          · have h := ip c_13 h
            obtain ⟨⟨r14, I15, A16⟩, hc17, h⟩ := Option.bind_eq_some_iff.mp h
            have fI15 : Fc pC I I15 := Fc_tr fI (fr_X1_addVariable I A (58 + 52 * a1.toNatClampNeg) a2 a3 r14 I15 A16 hc17).1
            have fA16 : Fc pC A A16 := Fc_tr fA (fr_X1_addVariable I A (58 + 52 * a1.toNatClampNeg) a2 a3 r14 I15 A16 hc17).2
            cases h; exact ⟨fI15, fA16⟩
          · have h := iN c_13 h
            cases h; exact ⟨fI, fA⟩
        · have h := iN c_10 h
          cases h; exact ⟨fI, fA⟩
set_option maxHeartbeats 4000000 in
set_option maxRecDepth 100000 in
theorem fr_X6_with (I : Nat → Nat → Int32) (A : Nat → Nat → Int32) (a1 : Int32) (r0 : Int32) (I0 : Nat → Nat → Int32) (A0 : Nat → Nat → Int32) (h : f_X6_with I A a1 = some (r0, I0, A0)) : Fc pC I I0 ∧ Fc pC A A0 := by
  have fI : Fc pC I I := Fc_rf
  have fA : Fc pC A A := Fc_rf
  rw [f_X6_with] at h
  by_cases c_1 : (I 0 7) = (-9)
  · have h := ip c_1 h
    cases h; exact ⟨fI, fA⟩
  · have h := iN c_1 h
    obtain ⟨hn2, h⟩ := gk h
    obtain ⟨hk3, h⟩ := gk h
    obtain ⟨r4, hc5, h⟩ := Option.bind_eq_some_iff.mp h
    by_cases c_6 : r4 = 0
    · have h := ip c_6 h
      cases h; exact ⟨fI, fA⟩
    · have h := iN c_6 h
      obtain ⟨hn7, h⟩ := gk h
      obtain ⟨A8, eA8, h⟩ := bd_e h
      have fA8 : Fc pC A A8 := by rw [eA8]; exact Fc_up fA (show ¬ 318 ≤ 18 by decide)
      obtain ⟨I9, eI9, h⟩ := bd_e h
      have fI9 : Fc pC I I9 := by rw [eI9]; exact Fc_up fI (show ¬ 318 ≤ 0 by decide)
      cases h; exact ⟨fI9, fA8⟩
