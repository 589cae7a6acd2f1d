/-! THE TIE: a rule. q: its number among all 40, Q: its slot in the class -/
def TRu (I A R : Nat → Nat → Int32) (q Q : Nat) : Prop := R 324 q = I Q 0 ∧ R 325 q = I Q 1 ∧ R 326 q = I Q 2 ∧ ∀ k, k < 6 → R 327 (6 * q + k) = A (Q + 1) k ∧ R 328 (6 * q + k) = A (Q + 2) k
/-- weights from -50 to 50 -/
def TWe (A : Nat → Nat → Int32) (Q n : Nat) : Prop := ∀ k, k < n → -50 ≤ (A (Q + 2) k).toInt ∧ (A (Q + 2) k).toInt ≤ 50
/-- the row at v is the reference's row -/
def TRo (A R : Nat → Nat → Int32) (v : Nat) : Prop := ∀ i, i < 6 → (A v i = -1 ∧ R 364 i = -9) ∨ ∃ m, m < 6 ∧ A v i = nI m ∧ R 364 i = nI m
/-- the reference's value of the i-th part -/
def rv (R : Nat → Nat → Int32) (q i : Nat) : Int32 := R 364 (R 327 (6 * q + i)).toNatClampNeg
/-- parts in order -/
def TPa (R : Nat → Nat → Int32) (q n : Nat) : Prop := q < 40 ∧ n ≤ 6 ∧ R 326 q = nI n ∧ ∀ i, i < n → ∃ m, m < 6 ∧ R 327 (6 * q + i) = nI m
theorem TPa_of {I A R : Nat → Nat → Int32} {q Q n : Nat} (hq : q < 40) (h : TRu I A R q Q) (hw : RuW I A Q n) : TPa R q n :=
  ⟨hq, hw.1, h.2.2.1.trans hw.2.1, fun i hi => by rw [(h.2.2.2 i (by have := hw.1; omega)).1]; exact t_in6 (hw.2.2 i hi) (by omega)⟩
/-- a part's value on both sides -/
theorem tr_pv {I A R : Nat → Nat → Int32} {q Q n v i : Nat} (h : TRu I A R q Q) (hw : RuW I A Q n) (hv : TRo A R v) (hi : i < n) : (pv A Q v i = -1 ∧ rv R q i = -9) ∨ ∃ m, m < 6 ∧ pv A Q v i = nI m ∧ rv R q i = nI m := by
  unfold pv rv
  rw [(h.2.2.2 i (by have := hw.1; omega)).1]
  obtain ⟨m, hm, em⟩ := t_in6 (hw.2.2 i hi) (by omega)
  rw [em, t_cl (by omega)]
  exact hv m hm
def rt (R : Nat → Nat → Int32) (p q : Nat) (b : Int32) (i : Nat) : Int32 := if rv R q i = -9 then (if R 328 (6 * q + i) < 0 then (if 1 = b then R 328 (6 * q + i) * (R 321 (6 * p + (R 327 (6 * q + i)).toNatClampNeg) - 1) else 0) else (if 0 = b then R 328 (6 * q + i) * (R 321 (6 * p + (R 327 (6 * q + i)).toNatClampNeg) - 1) else 0)) else R 328 (6 * q + i) * rv R q i
theorem r_sumOf_L {R : Nat → Nat → Int32} {p q n : Nat} {b : Int32} {k4 : Int32 → Option Int32} (hp : p < 5) (h : TPa R q n) : ∀ (k i fu : Nat) (a : Int32), i + k = n → k < fu → f_X7_sumOf_L6 (nI p) (nI q) b R k4 fu (nI i) a = k4 (sm (rt R p q b) k i a) := by
  obtain ⟨hq, hn, en, hp6⟩ := h
  intro k
  induction k with
  | zero =>
    intro i fu a hi hf
    obtain ⟨fu, rfl⟩ : ∃ z, fu = z + 1 := ⟨fu - 1, by omega⟩
    have hlt : ¬ i < n := by omega
    simp (disch := omega) only [f_X7_sumOf_L6, gd_in, t_cl, en, t_lt, hlt, if_false, sm]
  | succ k ih =>
    intro i fu a hi hf
    obtain ⟨fu, rfl⟩ : ∃ z, fu = z + 1 := ⟨fu - 1, by omega⟩
    have hlt : i < n := by omega
    obtain ⟨m, hm, em⟩ := hp6 i hlt
    have ih' : ∀ a, f_X7_sumOf_L6 (nI p) (nI q) b R k4 fu (nI (i + 1)) a = k4 (sm (rt R p q b) k (i + 1) a) := fun a => ih (i + 1) fu a (by omega) (by omega)
    have er : rv R q i = R 364 m := by unfold rv; rw [em, t_cl (by omega)]
    simp (disch := omega) only [f_X7_sumOf_L6, gd_in, t_cl, en, t_lt, hlt, if_true, m6, em, nI_1, ih', sm, rt, er]
    repeat' split
    all_goals first | rfl | contradiction | (exfalso; simp_all; done)
theorem r_sumOf {R : Nat → Nat → Int32} {p q n : Nat} {b : Int32} (hp : p < 5) (h : TPa R q n) : f_X7_sumOf R (nI p) (nI q) b = some (sm (rt R p q b) n 0 0) := by
  simp only [f_X7_sumOf, bd]
  exact r_sumOf_L hp h n 0 FU 0 (by omega) (t_fu n (by have := h.2.1; omega))
theorem t_mul {w : Int32} {m : Nat} (h1 : -50 ≤ w.toInt) (h2 : w.toInt ≤ 50) (hm : m ≤ 5) : (w * nI m).toInt = w.toInt * m := by
  rw [Int32.toInt_mul, nI_toInt (by omega)]
  obtain rfl | rfl | rfl | rfl | rfl | rfl : m = 0 ∨ m = 1 ∨ m = 2 ∨ m = 3 ∨ m = 4 ∨ m = 5 := by omega
  all_goals (apply Int.bmod_eq_of_le <;> omega)
theorem t_neg {w : Int32} {m : Nat} (h1 : -50 ≤ w.toInt) (h2 : w.toInt ≤ 50) (hm : m ≤ 5) : w * nI m < 0 ↔ w < 0 ∧ 0 < m := by
  rw [Int32.lt_iff_toInt_lt, Int32.lt_iff_toInt_lt, t_mul h1 h2 hm, show (0 : Int32).toInt = 0 by decide]
  obtain rfl | rfl | rfl | rfl | rfl | rfl : m = 0 ∨ m = 1 ∨ m = 2 ∨ m = 3 ∨ m = 4 ∨ m = 5 := by omega
  all_goals omega
theorem t_pos {w : Int32} {m : Nat} (h1 : -50 ≤ w.toInt) (h2 : w.toInt ≤ 50) (hm : m ≤ 5) : 0 < w * nI m ↔ 0 < w ∧ 0 < m := by
  rw [Int32.lt_iff_toInt_lt, Int32.lt_iff_toInt_lt, t_mul h1 h2 hm, show (0 : Int32).toInt = 0 by decide]
  obtain rfl | rfl | rfl | rfl | rfl | rfl : m = 0 ∨ m = 1 ∨ m = 2 ∨ m = 3 ∨ m = 4 ∨ m = 5 := by omega
  all_goals omega
theorem t_mul0 (w : Int32) : w * nI 0 = 0 := Int32.mul_zero
/-- the sizes of a rule's parts -/
def TSz (A : Nat → Nat → Int32) (Q z n : Nat) : Prop := ∀ i, i < n → ∃ s, 1 ≤ s ∧ s ≤ 6 ∧ A z (A (Q + 1) i).toNatClampNeg = nI s
/-- sizes on both sides -/
def TSs (A R : Nat → Nat → Int32) (p z : Nat) : Prop := ∀ m, m < 6 → R 321 (6 * p + m) = A z m
section RU
variable {I A R : Nat → Nat → Int32} {p q Q n v z : Nat}
theorem rt_1 (h : TRu I A R q Q) (hw : RuW I A Q n) (hv : TRo A R v) (he : TWe A Q n) (hs : TSz A Q z n) (hz : TSs A R p z) {i : Nat} (hi : i < n) : rt R p q 1 i = tl A Q v z i := by
  have hn := hw.1
  obtain ⟨m, hm, em⟩ := t_in6 (hw.2.2 i hi) (by omega)
  obtain ⟨s, s1, s6, es⟩ := hs i hi
  unfold rt tl
  rw [(h.2.2.2 i (by omega)).1, (h.2.2.2 i (by omega)).2]
  rw [em, t_cl (by omega)] at es ⊢
  rw [hz m hm, es, nI_s1 (by omega)]
  have hneg := t_neg (he i hi).1 (he i hi).2 (show s - 1 ≤ 5 by omega)
  rcases tr_pv h hw hv hi with ⟨e1, e2⟩ | ⟨x, hx, e1, e2⟩
  · simp only [e1, e2, if_true, z01, if_false]
    by_cases hw0 : A (Q + 2) i < 0
    · rw [if_pos hw0]
      by_cases hs0 : 0 < s - 1
      · rw [if_pos (hneg.mpr ⟨hw0, hs0⟩)]
      · rw [if_neg (fun r => hs0 (hneg.mp r).2), show s - 1 = 0 by omega, t_mul0]
    · rw [if_neg hw0, if_neg (fun r => hw0 (hneg.mp r).1)]
  · rw [e1, e2, if_neg (t_m9 (by omega)), if_neg (t_m1 (by omega))]
theorem rt_0 (h : TRu I A R q Q) (hw : RuW I A Q n) (hv : TRo A R v) (he : TWe A Q n) (hs : TSz A Q z n) (hz : TSs A R p z) {i : Nat} (hi : i < n) : rt R p q 0 i = tg A Q v z i := by
  have hn := hw.1
  obtain ⟨m, hm, em⟩ := t_in6 (hw.2.2 i hi) (by omega)
  obtain ⟨s, s1, s6, es⟩ := hs i hi
  unfold rt tg
  rw [(h.2.2.2 i (by omega)).1, (h.2.2.2 i (by omega)).2]
  rw [em, t_cl (by omega)] at es ⊢
  rw [hz m hm, es, nI_s1 (by omega)]
  have hpos := t_pos (he i hi).1 (he i hi).2 (show s - 1 ≤ 5 by omega)
  rcases tr_pv h hw hv hi with ⟨e1, e2⟩ | ⟨x, hx, e1, e2⟩
  · simp only [e1, e2, if_true, z10, if_false]
    by_cases hw0 : A (Q + 2) i < 0
    · rw [if_pos hw0, if_neg (fun r => absurd (hpos.mp r).1 (Int32.not_lt.mpr (Int32.le_of_lt hw0)))]
    · rw [if_neg hw0]
      by_cases hs0 : 0 < s - 1
      · by_cases hw1 : 0 < A (Q + 2) i
        · rw [if_pos (hpos.mpr ⟨hw1, hs0⟩)]
        · have e0 : A (Q + 2) i = 0 := Int32.le_antisymm (Int32.not_lt.mp hw1) (Int32.not_lt.mp hw0)
          rw [if_neg (fun r => hw1 (hpos.mp r).1), e0, Int32.zero_mul]
      · rw [if_neg (fun r => hs0 (hpos.mp r).2), show s - 1 = 0 by omega, t_mul0]
  · rw [e1, e2, if_neg (t_m9 (by omega)), if_neg (t_m1 (by omega))]
end RU
/-- LOADED -/
def rl (R : Nat → Nat → Int32) (q : Nat) (x : Int32) (i : Nat) : Int32 := if rv R q i = x then R 328 (6 * q + i) else if rv R q i = -9 then (if R 328 (6 * q + i) < 0 then R 328 (6 * q + i) else 0) else 0
theorem r_load_L {R : Nat → Nat → Int32} {q n : Nat} {x : Int32} {k9 : Int32 → Option Int32} (h : TPa R q n) : ∀ (k i fu : Nat) (a : Int32), i + k = n → k < fu → f_X7_isLoaded_L13 x (nI q) R k9 fu (nI i) a = k9 (sm (rl R q x) k i a) := by
  obtain ⟨hq, hn, en, hp6⟩ := h
  intro k
  induction k with
  | zero =>
    intro i fu a hi hf
    obtain ⟨fu, rfl⟩ : ∃ z, fu = z + 1 := ⟨fu - 1, by omega⟩
    have hlt : ¬ i < n := by omega
    simp (disch := omega) only [f_X7_isLoaded_L13, gd_in, t_cl, en, t_lt, hlt, if_false, sm]
  | succ k ih =>
    intro i fu a hi hf
    obtain ⟨fu, rfl⟩ : ∃ z, fu = z + 1 := ⟨fu - 1, by omega⟩
    have hlt : i < n := by omega
    obtain ⟨m, hm, em⟩ := hp6 i hlt
    have ih' : ∀ a, f_X7_isLoaded_L13 x (nI q) R k9 fu (nI (i + 1)) a = k9 (sm (rl R q x) k (i + 1) a) := fun a => ih (i + 1) fu a (by omega) (by omega)
    have er : rv R q i = R 364 m := by unfold rv; rw [em, t_cl (by omega)]
    simp (disch := omega) only [f_X7_isLoaded_L13, gd_in, t_cl, en, t_lt, hlt, if_true, m6, em, nI_1, ih', sm, rl, er]
    repeat' split
    all_goals first | rfl | contradiction | (exfalso; simp_all; done)
def plo2 (R : Nat → Nat → Int32) (q n x : Nat) : Bool := decide (R 325 q < sm (rl R q (nI x)) n 0 0)
theorem r_load_L2 {R : Nat → Nat → Int32} {q n : Nat} {k3 k4 : Unit → Option Int32} (h : TPa R q n) : ∀ (k i fu : Nat), i + k = 6 → k < fu → f_X7_isLoaded_L2 (nI q) R k3 k4 fu (nI i) = if ex1 (plo2 R q n) k i = 1 then k3 () else k4 () := by
  have hq := h.1
  have hn := h.2.1
  intro k
  induction k with
  | zero =>
    intro i fu hi hf
    obtain ⟨fu, rfl⟩ : ∃ z, fu = z + 1 := ⟨fu - 1, by omega⟩
    obtain rfl : i = 6 := by omega
    rw [f_X7_isLoaded_L2, if_neg (by decide)]
    rfl
  | succ k ih =>
    intro i fu hi hf
    obtain ⟨fu, rfl⟩ : ∃ z, fu = z + 1 := ⟨fu - 1, by omega⟩
    rw [f_X7_isLoaded_L2, if_pos (show nI i < 6 from nI_lt (b := 6) (by omega) (by omega))]
    simp only [bd]
    refine Eq.trans (r_load_L h n 0 FU 0 (by omega) (t_fu n (by omega))) ?_
    simp (disch := omega) only [gd_in, t_cl, nI_1]
    rw [ih (i + 1) fu (by omega) (by omega), ex1_if]
    by_cases hc : R 325 q < sm (rl R q (nI i)) n 0 0
    · rw [if_pos hc, if_pos (show plo2 R q n i = true from decide_eq_true hc)]
    · rw [if_neg hc, if_neg (show ¬ plo2 R q n i = true from by rw [show plo2 R q n i = false from decide_eq_false hc]; decide)]
theorem r_isLoaded {R : Nat → Nat → Int32} {q n : Nat} (h : TPa R q n) : f_X7_isLoaded R (nI q) = some (ex1 (plo2 R q n) 6 0) := by
  simp only [f_X7_isLoaded, bd]
  refine Eq.trans (r_load_L2 h 6 0 FU (by omega) (t_fu 6 (by omega))) ?_
  rcases ex1_01 (plo2 R q n) 6 0 with e | e <;> rw [e]
  · rw [if_neg z01]
  · rw [if_pos rfl]
theorem load_e {I A R : Nat → Nat → Int32} {q Q n v : Nat} (h : TRu I A R q Q) (hw : RuW I A Q n) (hv : TRo A R v) : ex1 (plo2 R q n) 6 0 = ex1 (pov I A Q v n) 6 0 := by
  have hn := hw.1
  apply ex1_e
  have e : ∀ x, x < 6 → plo2 R q n x = pov I A Q v n x := fun x hx => by
    unfold plo2 pov
    rw [h.2.1]
    congr 2
    have e1 : sm (tv A Q v (nI x)) n 0 (sm (to A Q v) n 0 0) = sm (fun j => to A Q v j + tv A Q v (nI x) j) n 0 0 := by
      have := sm_a (tv A Q v (nI x)) n 0 (sm (to A Q v) n 0 0) 0
      rw [Int32.add_zero] at this
      rw [this, sm_2]
      rfl
    rw [e1]
    apply sm_c
    intro i _ hi
    unfold rl to tv
    rw [(h.2.2.2 i (by omega)).2]
    rcases tr_pv h hw hv (i := i) (by omega) with ⟨e1, e2⟩ | ⟨m, hm, e1, e2⟩
    · simp only [e1, e2, if_true, show ¬ (-9 : Int32) = nI x from fun r => t_m9 (by omega) r.symm, show ¬ (-1 : Int32) = nI x from fun r => t_m1 (by omega) r.symm, if_false, Int32.add_zero]
    · simp only [e1, e2, t_m9 (n := m) (by omega), t_m1 (n := m) (by omega), if_false, Int32.zero_add]
  constructor
  · rintro ⟨j, h1, h2, h3⟩; exact ⟨j, h1, h2, by rw [← e j (by omega)]; exact h3⟩
  · rintro ⟨j, h1, h2, h3⟩; exact ⟨j, h1, h2, by rw [e j (by omega)]; exact h3⟩
/-- ENOUGH -/
def rwl (R : Nat → Nat → Int32) (q i : Nat) : Int32 := if rv R q i = -9 then 1 else if rv R q i = R 328 (6 * q + i) then 1 else 0
theorem r_will_L {R : Nat → Nat → Int32} {q n : Nat} {c : Int32} {k9 : Int32 → Int32 → Option Int32} (h : TPa R q n) : ∀ (k i fu : Nat) (a : Int32), i + k = n → k < fu → f_X7_isBroken_L162 R k9 fu (nI i) a c (nI q) = k9 c (sm (rwl R q) k i a) := by
  obtain ⟨hq, hn, en, hp6⟩ := h
  intro k
  induction k with
  | zero =>
    intro i fu a hi hf
    obtain ⟨fu, rfl⟩ : ∃ z, fu = z + 1 := ⟨fu - 1, by omega⟩
    have hlt : ¬ i < n := by omega
    simp (disch := omega) only [f_X7_isBroken_L162, gd_in, t_cl, en, t_lt, hlt, if_false, sm]
  | succ k ih =>
    intro i fu a hi hf
    obtain ⟨fu, rfl⟩ : ∃ z, fu = z + 1 := ⟨fu - 1, by omega⟩
    have hlt : i < n := by omega
    obtain ⟨m, hm, em⟩ := hp6 i hlt
    have ih' : ∀ a, f_X7_isBroken_L162 R k9 fu (nI (i + 1)) a c (nI q) = k9 c (sm (rwl R q) k (i + 1) a) := fun a => ih (i + 1) fu a (by omega) (by omega)
    have er : rv R q i = R 364 m := by unfold rv; rw [em, t_cl (by omega)]
    simp (disch := omega) only [f_X7_isBroken_L162, gd_in, t_cl, en, t_lt, hlt, if_true, m6, em, nI_1, ih', sm, rwl, er]
    repeat' split
    all_goals first | rfl | contradiction | (exfalso; simp_all; done)
/-- RISING -/
def pfa (R : Nat → Nat → Int32) (q i : Nat) : Bool := decide (rv R q (i - 1) ≠ -9 ∧ rv R q i ≠ -9 ∧ rv R q i < rv R q (i - 1) + R 325 q)
theorem r_fall_L {R : Nat → Nat → Int32} {q n : Nat} {k3 k4 : Unit → Option Int32} (h : TPa R q n) : ∀ (k i fu : Nat), 1 ≤ i → (i + k = n ∨ (k = 0 ∧ n ≤ i ∧ i ≤ 1)) → k < fu → f_X7_isFalling_L2 (nI q) R k3 k4 fu (nI i) = if ex1 (pfa R q) k i = 1 then k3 () else k4 () := by
  obtain ⟨hq, hn, en, hp6⟩ := h
  intro k
  induction k with
  | zero =>
    intro i fu h1 hi hf
    obtain ⟨fu, rfl⟩ : ∃ z, fu = z + 1 := ⟨fu - 1, by omega⟩
    have hlt : ¬ i < n := by omega
    simp (disch := omega) only [f_X7_isFalling_L2, gd_in, t_cl, en, t_lt, hlt, if_false, ex1]
    rfl
  | succ k ih =>
    intro i fu h1 hi hf
    obtain ⟨fu, rfl⟩ : ∃ z, fu = z + 1 := ⟨fu - 1, by omega⟩
    have hlt : i < n := by omega
    obtain ⟨m, hm, em⟩ := hp6 i hlt
    obtain ⟨m', hm', em'⟩ := hp6 (i - 1) (by omega)
    have ih' := ih (i + 1) fu (by omega) (by omega) (by omega)
    have er : rv R q i = R 364 m := by unfold rv; rw [em, t_cl (by omega)]
    have er' : rv R q (i - 1) = R 364 m' := by unfold rv; rw [em', t_cl (by omega)]
    have ei : 6 * q + i - 1 = 6 * q + (i - 1) := by omega
    simp (disch := omega) only [f_X7_isFalling_L2, gd_in, t_cl, en, t_lt, hlt, if_true, m6, nI_s1, ei, em, em', nI_1, ih', ex1, pfa, er, er']
    by_cases h1 : R 364 m' = -9 <;> by_cases h2 : R 364 m = -9 <;> by_cases h3 : R 364 m < R 364 m' + R 325 q <;> simp [h1, h2, h3]
theorem r_isFalling {R : Nat → Nat → Int32} {q n : Nat} (h : TPa R q n) : f_X7_isFalling R (nI q) = some (ex1 (pfa R q) (n - 1) 1) := by
  simp only [f_X7_isFalling, bd]
  have hn := h.2.1
  refine Eq.trans (r_fall_L h (n - 1) 1 FU (by omega) (by omega) (t_fu _ (by omega))) ?_
  rcases ex1_01 (pfa R q) (n - 1) 1 with e | e <;> rw [e]
  · rw [if_neg z01]
  · rw [if_pos rfl]
theorem fall_e {I A R : Nat → Nat → Int32} {q Q n v : Nat} (h : TRu I A R q Q) (hw : RuW I A Q n) (hv : TRo A R v) : ex1 (pfa R q) (n - 1) 1 = ex1 (pst I A Q v) (n - 1) 0 := by
  have hn := hw.1
  apply ex1_e
  have e : ∀ x, x + 1 < n → pfa R q (x + 1) = pst I A Q v x := fun x hx => by
    unfold pfa pst
    rw [h.2.1, Nat.add_sub_cancel]
    congr 1
    rcases tr_pv h hw hv (i := x) (by omega) with ⟨e1, e2⟩ | ⟨m, hm, e1, e2⟩ <;> rcases tr_pv h hw hv (i := x + 1) (by omega) with ⟨e3, e4⟩ | ⟨m', hm', e3, e4⟩ <;> rw [e1, e2, e3, e4]
    · simp
    · simp
    · simp
    · simp [t_m9 (n := m) (by omega), t_m9 (n := m') (by omega), t_m1 (n := m) (by omega), t_m1 (n := m') (by omega)]
  constructor
  · rintro ⟨j, h1, h2, h3⟩; exact ⟨j - 1, by omega, by omega, by rw [← e (j - 1) (by omega), Nat.sub_add_cancel h1]; exact h3⟩
  · rintro ⟨j, h1, h2, h3⟩; exact ⟨j + 1, by omega, by omega, by rw [e j (by omega)]; exact h3⟩
/-- UNLIKE, FAR -/
def dst (x y : Int32) : Int32 := if x < y then y - x else x - y
def pnn (R : Nat → Nat → Int32) (q : Nat) (b : Int32) (i j : Nat) : Bool := decide (rv R q i ≠ -9 ∧ rv R q j ≠ -9 ∧ (dst (rv R q i) (rv R q j) = 0 ∨ (b ≠ 0 ∧ dst (rv R q i) (rv R q j) < R 325 q)))
theorem r_near_L {R : Nat → Nat → Int32} {q n i : Nat} {b : Int32} {k9 k10 : Unit → Option Int32} (h : TPa R q n) (hin : i < n) : ∀ (k j fu : Nat), j + k = i → k < fu → f_X7_isNear_L15 (nI i) (nI q) b R k9 k10 fu (nI j) = if ex1 (pnn R q b i) k j = 1 then k9 () else k10 () := by
  obtain ⟨hq, hn, en, hp6⟩ := h
  intro k
  induction k with
  | zero =>
    intro j fu hj hf
    obtain ⟨fu, rfl⟩ : ∃ z, fu = z + 1 := ⟨fu - 1, by omega⟩
    have hlt : ¬ j < i := by omega
    simp (disch := omega) only [f_X7_isNear_L15, t_lt, hlt, if_false, ex1]
    rfl
  | succ k ih =>
    intro j fu hj hf
    obtain ⟨fu, rfl⟩ : ∃ z, fu = z + 1 := ⟨fu - 1, by omega⟩
    have hlt : j < i := by omega
    obtain ⟨m, hm, em⟩ := hp6 i hin
    obtain ⟨m', hm', em'⟩ := hp6 j (by omega)
    have ih' := ih (j + 1) fu (by omega) (by omega)
    have er : rv R q i = R 364 m := by unfold rv; rw [em, t_cl (by omega)]
    have er' : rv R q j = R 364 m' := by unfold rv; rw [em', t_cl (by omega)]
    rw [ex1_if]
    have hR : ∀ x y : Int32, (if x < y then (if x = -9 then (if ex1 (pnn R q b i) k (j + 1) = 1 then k9 () else k10 ()) else (if y = -9 then (if ex1 (pnn R q b i) k (j + 1) = 1 then k9 () else k10 ()) else (if y - x = 0 then k9 () else (if b = 0 then (if ex1 (pnn R q b i) k (j + 1) = 1 then k9 () else k10 ()) else (if y - x < R 325 q then k9 () else (if ex1 (pnn R q b i) k (j + 1) = 1 then k9 () else k10 ())))))) else (if x = -9 then (if ex1 (pnn R q b i) k (j + 1) = 1 then k9 () else k10 ()) else (if y = -9 then (if ex1 (pnn R q b i) k (j + 1) = 1 then k9 () else k10 ()) else (if x - y = 0 then k9 () else (if b = 0 then (if ex1 (pnn R q b i) k (j + 1) = 1 then k9 () else k10 ()) else (if x - y < R 325 q then k9 () else (if ex1 (pnn R q b i) k (j + 1) = 1 then k9 () else k10 ()))))))) = (if x = -9 then (if ex1 (pnn R q b i) k (j + 1) = 1 then k9 () else k10 ()) else (if y = -9 then (if ex1 (pnn R q b i) k (j + 1) = 1 then k9 () else k10 ()) else (if dst x y = 0 then k9 () else (if b = 0 then (if ex1 (pnn R q b i) k (j + 1) = 1 then k9 () else k10 ()) else (if dst x y < R 325 q then k9 () else (if ex1 (pnn R q b i) k (j + 1) = 1 then k9 () else k10 ())))))) := fun x y => by
      unfold dst
      by_cases hxy : x < y
      · simp only [if_pos hxy]
      · simp only [if_neg hxy]
    simp (disch := omega) only [f_X7_isNear_L15, bd, gd_in, t_cl, t_lt, hlt, if_true, m6, em, em', nI_1, ih']
    refine Eq.trans (hR (R 364 m) (R 364 m')) ?_
    by_cases hp : pnn R q b i j = true
    · rw [if_pos hp]
      obtain ⟨g1, g2, g3⟩ := of_decide_eq_true hp
      rw [er] at g1 g3
      rw [er'] at g2 g3
      rw [if_neg g1, if_neg g2]
      by_cases hD : dst (R 364 m) (R 364 m') = 0
      · rw [if_pos hD]
      · obtain ⟨g4, g5⟩ := g3.resolve_left hD
        rw [if_neg hD, if_neg g4, if_pos g5]
    · rw [if_neg hp]
      by_cases h1 : R 364 m = -9
      · rw [if_pos h1]
      by_cases h2 : R 364 m' = -9
      · rw [if_neg h1, if_pos h2]
      have hD : ¬ (dst (R 364 m) (R 364 m') = 0 ∨ (b ≠ 0 ∧ dst (R 364 m) (R 364 m') < R 325 q)) := fun q => hp (decide_eq_true (by rw [er, er']; exact ⟨h1, h2, q⟩))
      rw [if_neg h1, if_neg h2, if_neg (fun q => hD (Or.inl q))]
      by_cases h4 : b = 0
      · rw [if_pos h4]
      · rw [if_neg h4, if_neg (fun q => hD (Or.inr ⟨h4, q⟩))]
def pno (R : Nat → Nat → Int32) (q : Nat) (b : Int32) (i : Nat) : Bool := decide (ex1 (pnn R q b i) i 0 = 1)
theorem r_near_L2 {R : Nat → Nat → Int32} {q n : Nat} {b : Int32} {k3 k4 : Unit → Option Int32} (h : TPa R q n) : ∀ (k i fu : Nat), i + k = n → k < fu → f_X7_isNear_L2 (nI q) b R k3 k4 fu (nI i) = if ex1 (pno R q b) k i = 1 then k3 () else k4 () := by
  have hq := h.1
  have hn := h.2.1
  have en := h.2.2.1
  intro k
  induction k with
  | zero =>
    intro i fu hi hf
    obtain ⟨fu, rfl⟩ : ∃ z, fu = z + 1 := ⟨fu - 1, by omega⟩
    have hlt : ¬ i < n := by omega
    simp (disch := omega) only [f_X7_isNear_L2, gd_in, t_cl, en, t_lt, hlt, if_false, ex1]
    rfl
  | succ k ih =>
    intro i fu hi hf
    obtain ⟨fu, rfl⟩ : ∃ z, fu = z + 1 := ⟨fu - 1, by omega⟩
    have hlt : i < n := by omega
    simp (disch := omega) only [f_X7_isNear_L2, gd_in, t_cl, en, t_lt, hlt, if_true, bd, nI_1]
    refine Eq.trans (r_near_L h hlt i 0 FU (by omega) (t_fu i (by omega))) ?_
    rw [ih (i + 1) fu (by omega) (by omega), ex1_if]
    by_cases hc : ex1 (pnn R q b i) i 0 = 1
    · rw [if_pos hc, if_pos (show pno R q b i = true from decide_eq_true hc)]
    · rw [if_neg hc, if_neg (show ¬ pno R q b i = true from by rw [show pno R q b i = false from decide_eq_false hc]; decide)]
theorem r_isNear {R : Nat → Nat → Int32} {q n : Nat} {b : Int32} (h : TPa R q n) : f_X7_isNear R (nI q) b = some (ex1 (pno R q b) n 0) := by
  simp only [f_X7_isNear, bd]
  have hn := h.2.1
  refine Eq.trans (r_near_L2 h n 0 FU (by omega) (t_fu _ (by omega))) ?_
  rcases ex1_01 (pno R q b) n 0 with e | e <;> rw [e]
  · rw [if_neg z01]
  · rw [if_pos rfl]
theorem t_dst : ∀ a, a < 6 → ∀ b, b < 6 → dst (nI a) (nI b) = nI (if a < b then b - a else a - b) ∧ ab (nI a - nI b) = nI (if a < b then b - a else a - b) ∧ (if a < b then b - a else a - b) < 6 ∧ (if a < b then b - a else a - b) = (if b < a then a - b else b - a) := by decide
theorem near_e {I A R : Nat → Nat → Int32} {q Q n v : Nat} {b d : Int32} (h : TRu I A R q Q) (hw : RuW I A Q n) (hv : TRo A R v) (hbd : ∀ x, x < 6 → ((nI x = 0 ∨ (b ≠ 0 ∧ nI x < R 325 q)) ↔ nI x < d)) : ex1 (pno R q b) n 0 = ex1 (pna A Q v n d) n 0 := by
  have hn := hw.1
  apply ex1_e
  -- a pair: i the later part
  have e : ∀ i j, i < n → j < n → (pnn R q b i j = true ↔ pv A Q v j ≠ -1 ∧ pnr A Q v d j i = true) := fun i j hi hj => by
    unfold pnn pnr
    rw [decide_eq_true_iff, decide_eq_true_iff]
    rcases tr_pv h hw hv hi with ⟨e1, e2⟩ | ⟨m, hm, e1, e2⟩ <;> rcases tr_pv h hw hv hj with ⟨e3, e4⟩ | ⟨m', hm', e3, e4⟩ <;> rw [e1, e2, e3, e4]
    · simp
    · simp
    · simp
    · obtain ⟨d1, d2, d3, d4⟩ := t_dst m hm m' hm'
      obtain ⟨f1, f2, f3, f4⟩ := t_dst m' hm' m hm
      rw [d1, f2, d4]
      have hx := hbd _ f3
      constructor
      · rintro ⟨_, _, h3⟩; exact ⟨t_m1 (by omega), t_m1 (by omega), hx.mp h3⟩
      · rintro ⟨_, _, h3⟩; exact ⟨t_m9 (by omega), t_m9 (by omega), hx.mpr h3⟩
  constructor
  · rintro ⟨i, h1, h2, h3⟩
    obtain ⟨j, j1, j2, j3⟩ := (ex1_i _ _ _).mp (of_decide_eq_true h3)
    obtain ⟨g1, g2⟩ := (e i j (by omega) (by omega)).mp j3
    refine ⟨j, by omega, by omega, decide_eq_true ⟨g1, (ex1_i _ _ _).mpr ⟨i, by omega, by omega, g2⟩⟩⟩
  · rintro ⟨j, h1, h2, h3⟩
    obtain ⟨g1, g2⟩ := of_decide_eq_true h3
    obtain ⟨i, i1, i2, i3⟩ := (ex1_i _ _ _).mp g2
    exact ⟨i, by omega, by omega, decide_eq_true ((ex1_i _ _ _).mpr ⟨j, by omega, by omega, (e i j (by omega) (by omega)).mpr ⟨g1, i3⟩⟩)⟩
theorem near_4 {c : Int32} (x : Nat) (hx : x < 6) : (nI x = 0 ∨ ((0 : Int32) ≠ 0 ∧ nI x < c)) ↔ nI x < 1 := by
  have e0 : (nI x).toInt = x := nI_toInt (by omega)
  constructor
  · rintro (h | ⟨h, _⟩)
    · rw [h]; decide
    · exact absurd rfl h
  · intro h
    rw [Int32.lt_iff_toInt_lt, e0, show (1 : Int32).toInt = 1 by decide] at h
    left
    rw [show x = 0 by omega]; rfl
theorem near_5 {c : Int32} (x : Nat) (hx : x < 6) : (nI x = 0 ∨ ((1 : Int32) ≠ 0 ∧ nI x < c)) ↔ nI x < (if 1 < c then c else 1) := by
  have e0 : (nI x).toInt = x := nI_toInt (by omega)
  have e1 : (1 : Int32).toInt = 1 := by decide
  by_cases hc : 1 < c
  · rw [if_pos hc]
    rw [Int32.lt_iff_toInt_lt, e1] at hc
    constructor
    · rintro (h | ⟨_, h⟩)
      · rw [h, Int32.lt_iff_toInt_lt, show (0 : Int32).toInt = 0 by decide]; omega
      · exact h
    · intro h; exact Or.inr ⟨by decide, h⟩
  · rw [if_neg hc]
    rw [Int32.lt_iff_toInt_lt, e1] at hc
    constructor
    · rintro (h | ⟨_, h⟩)
      · rw [h]; decide
      · rw [Int32.lt_iff_toInt_lt, e0] at h ⊢; rw [e1]; omega
    · intro h
      rw [Int32.lt_iff_toInt_lt, e0, e1] at h
      left
      rw [show x = 0 by omega]; rfl
/-- a rule's whole tie -/
def TRule (I A R : Nat → Nat → Int32) (p q Q z n : Nat) : Prop := q < 40 ∧ TRu I A R q Q ∧ RuW I A Q n ∧ TWe A Q n ∧ TSz A Q z n ∧ TSs A R p z ∧ ∃ k, k ≤ 7 ∧ I Q 0 = nI k
theorem r_isBroken {I A R : Nat → Nat → Int32} {p r Q z n v : Nat} (hp : p < 5) (h : TRule I A R p (8 * p + r) Q z n) (hv : TRo A R v) : f_X7_isBroken R (nI p) (nI r) = some (brk I A Q v z n) := by
  obtain ⟨hq, hT, hw, he, hs, hz, kd, hkd, ek⟩ := h
  have hP := TPa_of hq hT hw
  have hn := hw.1
  have e1 : sm (rt R p (8 * p + r) 1) n 0 0 = sm (tl A Q v z) n 0 0 := sm_c n 0 0 (fun i _ hi => rt_1 hT hw hv he hs hz (by omega))
  have e0 : sm (rt R p (8 * p + r) 0) n 0 0 = sm (tg A Q v z) n 0 0 := sm_c n 0 0 (fun i _ hi => rt_0 hT hw hv he hs hz (by omega))
  have ew : sm (rwl R (8 * p + r)) n 0 0 = sm (tw A Q v) n 0 0 := sm_c n 0 0 (fun i _ hi => by
    unfold rwl tw
    rw [(hT.2.2.2 i (by omega)).2]
    rcases tr_pv hT hw hv (i := i) (by omega) with ⟨e1, e2⟩ | ⟨m, hm, e1, e2⟩
    · rw [e1, e2, if_pos rfl, if_pos (Or.inl rfl)]
    · rw [e1, e2, if_neg (t_m9 (by omega))]
      by_cases hc : nI m = A (Q + 2) i
      · rw [if_pos hc, if_pos (Or.inr hc)]
      · rw [if_neg hc, if_neg (fun r => r.elim (t_m1 (by omega)) hc)])
  unfold f_X7_isBroken brk
  simp (disch := omega) only [m8, gd_in, t_cl, hT.1, hT.2.1, ek]
  obtain rfl | rfl | rfl | rfl | rfl | rfl | rfl | rfl : kd = 0 ∨ kd = 1 ∨ kd = 2 ∨ kd = 3 ∨ kd = 4 ∨ kd = 5 ∨ kd = 6 ∨ kd = 7 := by omega
  · rw [if_pos (by decide), if_pos (by decide), r_isLoaded hP, load_e hT hw hv]
    exact gd_t (ex1_01 _ _ _)
  · rw [if_neg (by decide), if_pos (by decide), if_neg (by decide), if_pos (by decide), r_sumOf hp hP, e1]
    show (if _ then _ else _) = _
    split <;> rfl
  · rw [if_neg (by decide), if_neg (by decide), if_pos (by decide), if_neg (by decide), if_neg (by decide), if_pos (by decide), r_sumOf hp hP, e0]
    show (if _ then _ else _) = _
    split <;> rfl
  · rw [if_neg (by decide), if_neg (by decide), if_neg (by decide), if_pos (by decide), if_neg (by decide), if_neg (by decide), if_neg (by decide), if_pos (by decide), r_sumOf hp hP, r_sumOf hp hP, e0, e1]
    show (if _ then _ else (if _ then _ else _)) = _
    split
    · rfl
    · split <;> rfl
  · rw [if_neg (by decide), if_neg (by decide), if_neg (by decide), if_neg (by decide), if_pos (by decide), if_neg (by decide), if_neg (by decide), if_neg (by decide), if_neg (by decide), if_pos (by decide), r_isNear hP, near_e hT hw hv (fun x hx => near_4 x hx)]
    exact gd_t (ex1_01 _ _ _)
  · rw [if_neg (by decide), if_neg (by decide), if_neg (by decide), if_neg (by decide), if_neg (by decide), if_pos (by decide), if_neg (by decide), if_neg (by decide), if_neg (by decide), if_neg (by decide), if_neg (by decide), if_pos (by decide), r_isNear hP, near_e hT hw hv (fun x hx => near_5 x hx), hT.2.1]
    exact gd_t (ex1_01 _ _ _)
  · rw [if_neg (by decide), if_neg (by decide), if_neg (by decide), if_neg (by decide), if_neg (by decide), if_neg (by decide), if_pos (by decide), if_neg (by decide), if_neg (by decide), if_neg (by decide), if_neg (by decide), if_neg (by decide), if_neg (by decide), if_pos (by decide), r_isFalling hP, fall_e hT hw hv]
    exact gd_t (ex1_01 _ _ _)
  · rw [if_neg (by decide), if_neg (by decide), if_neg (by decide), if_neg (by decide), if_neg (by decide), if_neg (by decide), if_neg (by decide), if_neg (by decide), if_neg (by decide), if_neg (by decide), if_neg (by decide), if_neg (by decide), if_neg (by decide), if_neg (by decide), if_pos (by decide)]
    unfold bd
    have hL := r_will_L (c := I Q 1) (k9 := fun (v33 : Int32) (v34 : Int32) => if v34 < v33 then (some (1 : Int32)) else (some (0 : Int32))) hP n 0 FU 0 (by omega) (t_fu _ (by omega))
    rw [ew] at hL
    refine hL.trans ?_
    show (if _ then _ else _) = _
    split <;> rfl
