/-! THE TIE: numbers -/
theorem tI_mul (a b : Nat) : nI a * nI b = nI (a * b) := (Int32.ofNat_mul a b).symm
theorem m6 (a b : Nat) : 6 * nI a + nI b = nI (6 * a + b) := by rw [show (6 : Int32) = nI 6 from rfl, tI_mul, nI_add]
theorem m8 (a b : Nat) : 8 * nI a + nI b = nI (8 * a + b) := by rw [show (8 : Int32) = nI 8 from rfl, tI_mul, nI_add]
theorem m36 (a b c : Nat) : 36 * nI a + 6 * nI b + nI c = nI (36 * a + 6 * b + c) := by rw [show (36 : Int32) = nI 36 from rfl, show (6 : Int32) = nI 6 from rfl, tI_mul, tI_mul, nI_add, nI_add]
theorem nI_s1 {a : Nat} (h : 0 < a) : nI a - 1 = nI (a - 1) := by have q := nI_pred (a - 1); rwa [Nat.sub_add_cancel h] at q
theorem t_in {k n : Nat} (h : k < n) (hn : n < 2147483648) : inr (nI k) n := nI_in h (by omega)
theorem gd_in {β : Type} {k n : Nat} {a : Option β} {d : Decidable (inr (nI k) n)} (h : k < n) (hn : n < 2147483648) : @gd β (inr (nI k) n) d a = a := gd_t (t_in h hn)
theorem t_cl {n : Nat} (h : n < 2147483648) : (nI n).toNatClampNeg = n := nI_clamp (by omega)
theorem t_lt {a b : Nat} (ha : a < 2147483648) (hb : b < 2147483648) : nI a < nI b ↔ a < b := nI_ltI (by omega) (by omega)
theorem t_eq {a b : Nat} (ha : a < 2147483648) (hb : b < 2147483648) : nI a = nI b ↔ a = b := nI_eq (by omega) (by omega)
theorem t_m9 {n : Nat} (h : n < 2147483648) : ¬ nI n = -9 := fun q => by
  have e := congrArg Int32.toInt q
  rw [nI_toInt (by omega), show (-9 : Int32).toInt = -9 by decide] at e
  omega
theorem t_m1 {n : Nat} (h : n < 2147483648) : ¬ nI n = -1 := fun q => by
  have e := congrArg Int32.toInt q
  rw [nI_toInt (by omega), show (-1 : Int32).toInt = -1 by decide] at e
  omega
theorem t_fu (k : Nat) (h : k < 2000000) : k < FU := Nat.lt_of_lt_of_le h FU_le
theorem z0 : (0 : Int32) = nI 0 := rfl
theorem z01 : ¬ (0 : Int32) = 1 := by decide
theorem z10 : ¬ (1 : Int32) = 0 := by decide
theorem t_in6 {x : Int32} {n : Nat} (h : vp_in x n) (hn : n < 2147483648) : ∃ m, m < n ∧ x = nI m := vp_in_of h (by omega)
/-- sums -/
theorem sm_c {f g : Nat → Int32} : ∀ (k i : Nat) (a : Int32), (∀ j, i ≤ j → j < i + k → f j = g j) → sm f k i a = sm g k i a
  | 0, _, _, _ => rfl
  | k + 1, i, a, h => by
    unfold sm
    rw [h i (Nat.le_refl i) (by omega)]
    exact sm_c k (i + 1) _ (fun j h1 h2 => h j (by omega) (by omega))
theorem sm_a (f : Nat → Int32) : ∀ (k i : Nat) (a b : Int32), sm f k i (a + b) = a + sm f k i b
  | 0, _, _, _ => rfl
  | k + 1, i, a, b => by
    unfold sm
    rw [Int32.add_assoc]
    exact sm_a f k (i + 1) a _
theorem sm_2 (f g : Nat → Int32) : ∀ (k i : Nat) (a b : Int32), sm f k i a + sm g k i b = sm (fun j => f j + g j) k i (a + b)
  | 0, _, _, _ => rfl
  | k + 1, i, a, b => by
    unfold sm
    rw [sm_2 f g k (i + 1)]
    congr 1
    rw [Int32.add_assoc, Int32.add_assoc, ← Int32.add_assoc (f i) b, Int32.add_comm (f i) b, Int32.add_assoc]
/-- searches -/
theorem ex1_i (p : Nat → Bool) : ∀ k i, ex1 p k i = 1 ↔ ∃ j, i ≤ j ∧ j < i + k ∧ p j = true
  | 0, i => by
    unfold ex1
    constructor
    · intro h; exact absurd h (by decide)
    · rintro ⟨j, h1, h2, _⟩; omega
  | k + 1, i => by
    unfold ex1
    by_cases h : p i = true
    · rw [if_pos h]; exact ⟨fun _ => ⟨i, by omega, by omega, h⟩, fun _ => rfl⟩
    · rw [if_neg h, ex1_i p k (i + 1)]
      constructor
      · rintro ⟨j, h1, h2, h3⟩; exact ⟨j, by omega, by omega, h3⟩
      · rintro ⟨j, h1, h2, h3⟩
        rcases Nat.lt_or_ge i j with q | q
        · exact ⟨j, by omega, by omega, h3⟩
        · rw [show j = i by omega] at h3; exact absurd h3 h
theorem ex1_if {β : Type} {p : Nat → Bool} {k i : Nat} {a b : β} : (if ex1 p (k + 1) i = 1 then a else b) = if p i = true then a else (if ex1 p k (i + 1) = 1 then a else b) := by
  rw [ex1]
  by_cases h : p i = true
  · rw [if_pos h, if_pos h, if_pos rfl]
  · rw [if_neg h, if_neg h]
theorem ex1_e {p q : Nat → Bool} {k i k' i' : Nat} (h : (∃ j, i ≤ j ∧ j < i + k ∧ p j = true) ↔ ∃ j, i' ≤ j ∧ j < i' + k' ∧ q j = true) : ex1 p k i = ex1 q k' i' := by
  rcases ex1_01 p k i with h1 | h1 <;> rcases ex1_01 q k' i' with h2 | h2
  · rw [h1, h2]
  · have := (ex1_i p k i).mpr (h.mpr ((ex1_i q k' i').mp h2)); rw [h1] at this; exact absurd this (by decide)
  · have := (ex1_i q k' i').mpr (h.mp ((ex1_i p k i).mp h1)); rw [h2] at this; exact absurd this (by decide)
  · rw [h1, h2]
theorem fst1_c {p q : Nat → Bool} : ∀ (k i : Nat), (∀ j, i ≤ j → j < i + k → p j = q j) → fst1 p k i = fst1 q k i
  | 0, _, _ => rfl
  | k + 1, i, h => by
    unfold fst1
    rw [h i (Nat.le_refl i) (by omega), fst1_c k (i + 1) (fun j h1 h2 => h j (by omega) (by omega))]
theorem fst1_n {p : Nat → Bool} : ∀ (k i : Nat), i + k < 2147483648 → (fst1 p k i = -9 ↔ ∀ j, i ≤ j → j < i + k → p j = false)
  | 0, i, _ => by unfold fst1; exact ⟨fun _ j h1 h2 => by omega, fun _ => rfl⟩
  | k + 1, i, hk => by
    unfold fst1
    by_cases h : p i = true
    · rw [if_pos h]
      exact ⟨fun q => absurd q (t_m9 (by omega)), fun q => by rw [q i (by omega) (by omega)] at h; cases h⟩
    · rw [if_neg h, fst1_n k (i + 1) (by omega)]
      constructor
      · intro q j h1 h2
        rcases Nat.lt_or_ge i j with r | r
        · exact q j (by omega) (by omega)
        · rw [show j = i by omega]; simpa using h
      · intro q j h1 h2; exact q j (by omega) (by omega)
theorem fst1_o {p : Nat → Bool} : ∀ (k i : Nat), fst1 p k i = -9 ∨ ∃ j, i ≤ j ∧ j < i + k ∧ fst1 p k i = nI j ∧ p j = true
  | 0, _ => Or.inl rfl
  | k + 1, i => by
    unfold fst1
    by_cases h : p i = true
    · rw [if_pos h]; exact Or.inr ⟨i, by omega, by omega, rfl, h⟩
    · rw [if_neg h]
      rcases fst1_o (p := p) k (i + 1) with q | ⟨j, h1, h2, h3, h4⟩
      · exact Or.inl q
      · exact Or.inr ⟨j, by omega, by omega, h3, h4⟩
theorem fst1_if {β : Type} {p : Nat → Bool} {k i : Nat} {a : β} {f : Int32 → β} (hi : i < 2147483648) : (if fst1 p (k + 1) i = -9 then a else f (fst1 p (k + 1) i)) = if p i = true then f (nI i) else (if fst1 p k (i + 1) = -9 then a else f (fst1 p k (i + 1))) := by
  rw [fst1]
  by_cases h : p i = true
  · simp only [if_pos h, t_m9 hi, if_false]
  · simp only [if_neg h]
