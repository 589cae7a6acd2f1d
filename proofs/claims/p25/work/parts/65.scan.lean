/-! THE TIE: the search for the least node -/
/-- the better of a candidate and the best one so far -/
def btr (lt : Nat → Nat → Bool) (i : Nat) : Option Nat → Option Nat
  | none => some i
  | some j => if lt i j = true then some i else some j
theorem btr_s (lt : Nat → Nat → Bool) (i j : Nat) : btr lt i (some j) = if lt i j = true then some i else some j := rfl
/-- the least of a list (the first of equals), with a best one before it -/
def amin (P : Nat → Bool) (lt : Nat → Nat → Bool) : List Nat → Option Nat → Option Nat
  | [], b => b
  | i :: l, b => amin P lt l (if P i = true then btr lt i b else b)
def enc (x : Int32) : Option Nat → Int32
  | none => x
  | some n => nI n
theorem amin_f {P Q : Nat → Bool} {lt : Nat → Nat → Bool} (h : ∀ c, P c = true → Q c = true) : ∀ (l : List Nat) (b : Option Nat), amin P lt (l.filter Q) b = amin P lt l b
  | [], _ => rfl
  | i :: l, b => by
    by_cases hq : Q i = true
    · rw [List.filter_cons_of_pos hq]; unfold amin; exact amin_f h l _
    · rw [List.filter_cons_of_neg hq]
      have hp : ¬ P i = true := fun q => hq (h i q)
      rw [amin, if_neg hp]
      exact amin_f h l b
theorem amin_m {P : Nat → Bool} {lt : Nat → Nat → Bool} {φ : Nat → Nat} : ∀ (l : List Nat) (b : Option Nat), amin P lt (l.map φ) (b.map φ) = (amin (fun n => P (φ n)) (fun n m => lt (φ n) (φ m)) l b).map φ
  | [], _ => rfl
  | i :: l, b => by
    rw [List.map_cons, amin, amin]
    have e : (if P (φ i) = true then btr lt (φ i) (b.map φ) else b.map φ) = (if P (φ i) = true then btr (fun n m => lt (φ n) (φ m)) i b else b).map φ := by
      by_cases hp : P (φ i) = true
      · rw [if_pos hp, if_pos hp]
        cases b with
        | none => rfl
        | some j =>
          show (if lt (φ i) (φ j) = true then some (φ i) else some (φ j)) = Option.map φ (if lt (φ i) (φ j) = true then some i else some j)
          split <;> rfl
      · rw [if_neg hp, if_neg hp]
    rw [e]
    exact amin_m l _
theorem btr_o (lt : Nat → Nat → Bool) (i : Nat) (b : Option Nat) : btr lt i b = some i ∨ (btr lt i b = b ∧ b ≠ none) := by
  cases b with
  | none => exact Or.inl rfl
  | some j =>
    rw [btr_s]
    by_cases h : lt i j = true
    · rw [if_pos h]; exact Or.inl rfl
    · rw [if_neg h]; exact Or.inr ⟨rfl, by simp⟩
theorem amin_c {P P' : Nat → Bool} {lt lt' : Nat → Nat → Bool} (S : Nat → Prop) (hP : ∀ n, S n → P n = P' n) (hl : ∀ n m, S n → S m → lt n m = lt' n m) : ∀ (l : List Nat) (b : Option Nat), (∀ n ∈ l, S n) → (∀ n, b = some n → S n) → amin P lt l b = amin P' lt' l b
  | [], _, _, _ => rfl
  | i :: l, b, hS, hb => by
    have hi : S i := hS i (List.mem_cons_self ..)
    rw [amin, amin, ← hP i hi]
    have e : btr lt i b = btr lt' i b := by
      cases b with
      | none => rfl
      | some j => rw [btr_s, btr_s, hl i j hi (hb j rfl)]
    rw [e]
    refine amin_c S hP hl l _ (fun n hn => hS n (List.mem_cons_of_mem _ hn)) (fun n hn => ?_)
    by_cases hp : P i = true
    · rw [if_pos hp] at hn
      rcases btr_o lt' i b with q | q
      · rw [q] at hn; cases hn; exact hi
      · rw [q.1] at hn; exact hb n hn
    · rw [if_neg hp] at hn; exact hb n hn
theorem amin_o {P : Nat → Bool} {lt : Nat → Nat → Bool} : ∀ (l : List Nat) (b : Option Nat) (n : Nat), amin P lt l b = some n → b = some n ∨ (n ∈ l ∧ P n = true)
  | [], _, _, h => Or.inl h
  | i :: l, b, n, h => by
    rw [amin] at h
    rcases amin_o l _ n h with q | ⟨q1, q2⟩
    · by_cases hp : P i = true
      · rw [if_pos hp] at q
        rcases btr_o lt i b with r | r
        · rw [r] at q; cases q; exact Or.inr ⟨List.mem_cons_self .., hp⟩
        · rw [r.1] at q; exact Or.inl q
      · rw [if_neg hp] at q; exact Or.inl q
    · exact Or.inr ⟨List.mem_cons_of_mem _ q1, q2⟩
theorem amin_n {P : Nat → Bool} {lt : Nat → Nat → Bool} : ∀ (l : List Nat) (b : Option Nat), amin P lt l b = none → b = none ∧ ∀ n ∈ l, P n = false
  | [], _, h => ⟨h, fun _ q => by cases q⟩
  | i :: l, b, h => by
    rw [amin] at h
    obtain ⟨q1, q2⟩ := amin_n l _ h
    by_cases hp : P i = true
    · rw [if_pos hp] at q1
      rcases btr_o lt i b with r | r
      · rw [r] at q1; cases q1
      · rw [r.1] at q1; exact absurd q1 r.2
    · rw [if_neg hp] at q1
      refine ⟨q1, fun n hn => ?_⟩
      rcases List.mem_cons.mp hn with e | e
      · rw [e]; simpa using hp
      · exact q2 n e
/-- the class's searches -/
def pfr (A : Nat → Nat → Int32) (T c : Nat) : Bool := decide (A (T + 3) c = 0 ∧ A (T + 5) c = 0)
def pwk (A : Nat → Nat → Int32) (T c : Nat) : Bool := decide (¬ A (T + 8) c = 0 ∧ A (T + 3) c = 0 ∧ ¬ A (T + 5) c = 3)
def plt (L : Nat → Nat → Int64) (T c e : Nat) : Bool := decide (L (T + 1) c < L (T + 1) e)
theorem enc_s {Q : Prop} [Decidable Q] {A : Bool} {L : Nat → Nat → Int64} {T i : Nat} {b : Option Nat} (hb : ∀ j, b = some j → j < 2147483648) (hQ : A = true ↔ Q) : (if Q ∧ (enc (-1) b = -1 ∨ L (T + 1) i < L (T + 1) (enc (-1) b).toNatClampNeg) then nI i else enc (-1) b) = enc (-1) (if A = true then btr (plt L T) i b else b) := by
  by_cases h : Q
  · rw [if_pos (hQ.mpr h)]
    cases b with
    | none => rw [if_pos ⟨h, Or.inl rfl⟩]; rfl
    | some j =>
      have hj := hb j rfl
      rw [btr_s]
      show (if Q ∧ (nI j = -1 ∨ L (T + 1) i < L (T + 1) (nI j).toNatClampNeg) then nI i else nI j) = _
      rw [t_cl hj]
      by_cases hl : L (T + 1) i < L (T + 1) j
      · rw [if_pos ⟨h, Or.inr hl⟩, if_pos (show plt L T i j = true from decide_eq_true hl)]; rfl
      · rw [if_neg (fun q => q.2.elim (t_m1 hj) hl), if_neg (show ¬ plt L T i j = true from by unfold plt; rw [decide_eq_true_iff]; exact hl)]; rfl
  · rw [if_neg (fun q => h q.1), if_neg (fun q => h (hQ.mp q))]
theorem nxt_b {P : Bool} {lt : Nat → Nat → Bool} {i : Nat} {b : Option Nat} (hi : i < 2147483648) (hb : ∀ j, b = some j → j < 2147483648) : ∀ j, (if P = true then btr lt i b else b) = some j → j < 2147483648 := fun j hj => by
  by_cases hp : P = true
  · rw [if_pos hp] at hj
    rcases btr_o lt i b with q | q
    · rw [q] at hj; cases hj; exact hi
    · rw [q.1] at hj; exact hb j hj
  · rw [if_neg hp] at hj; exact hb j hj
theorem nfr_e {A : Nat → Nat → Int32} {L : Nat → Nat → Int64} {T : Nat} : ∀ (k i : Nat) (b : Option Nat), i + k < 2147483648 → (∀ j, b = some j → j < 2147483648) → nfr A L T k i (enc (-1) b) = enc (-1) (amin (pfr A T) (plt L T) (List.range' i k) b)
  | 0, _, _, _, _ => rfl
  | k + 1, i, b, hi, hb => by
    rw [nfr, enc_s (A := pfr A T i) hb (by unfold pfr; rw [decide_eq_true_iff]), List.range'_succ, amin]
    exact nfr_e k (i + 1) _ (by omega) (nxt_b (by omega) hb)
theorem nwk_e {A : Nat → Nat → Int32} {L : Nat → Nat → Int64} {T : Nat} : ∀ (k i : Nat) (b : Option Nat), i + k < 2147483648 → (∀ j, b = some j → j < 2147483648) → nwk A L T k i (enc (-1) b) = enc (-1) (amin (pwk A T) (plt L T) (List.range' i k) b)
  | 0, _, _, _, _ => rfl
  | k + 1, i, b, hi, hb => by
    rw [nwk, enc_s (A := pwk A T i) hb (by unfold pwk; rw [decide_eq_true_iff]), List.range'_succ, amin]
    exact nwk_e k (i + 1) _ (by omega) (nxt_b (by omega) hb)
/-- the reference's -/
def qfr (R : Nat → Nat → Int32) (n : Nat) : Bool := decide (R 343 n = -9)
def qwk (R : Nat → Nat → Int32) (n : Nat) : Bool := decide (R 345 n = 0 ∧ (R 342 n = -9 ∨ ¬ R 345 (R 342 n).toNatClampNeg = 0))
def qlt (R : Nat → Nat → Int32) (n m : Nat) : Bool := decide (R 341 n < R 341 m ∨ (R 341 n = R 341 m ∧ R 340 n < R 340 m))
theorem r_isAhead {R : Nat → Nat → Int32} {n m : Nat} (hn : n < 2000) (hm : m < 2000) : f_X7_isAhead R (nI n) (nI m) = some (if qlt R n m = true then 1 else 0) := by
  simp (disch := omega) only [f_X7_isAhead, gd_in, t_cl]
  unfold qlt
  by_cases h1 : R 341 n < R 341 m
  · rw [if_pos h1, if_pos (decide_eq_true (Or.inl h1))]
  · rw [if_neg h1]
    by_cases h2 : R 341 n = R 341 m
    · rw [if_pos h2]
      by_cases h3 : R 340 n < R 340 m
      · rw [if_pos h3, if_pos (decide_eq_true (Or.inr ⟨h2, h3⟩))]
      · rw [if_neg h3, if_neg (fun q => (of_decide_eq_true q).elim h1 (fun q => h3 q.2))]
    · rw [if_neg h2, if_neg (fun q => (of_decide_eq_true q).elim h1 (fun q => h2 q.1))]
theorem nxt_b2 {P : Bool} {lt : Nat → Nat → Bool} {i N : Nat} {b : Option Nat} (hi : i < N) (hb : ∀ j, b = some j → j < N) : ∀ j, (if P = true then btr lt i b else b) = some j → j < N := fun j hj => by
  by_cases hp : P = true
  · rw [if_pos hp] at hj
    rcases btr_o lt i b with q | q
    · rw [q] at hj; cases hj; exact hi
    · rw [q.1] at hj; exact hb j hj
  · rw [if_neg hp] at hj; exact hb j hj
theorem r_next_L {J R : Nat → Nat → Int32} {nn : Nat} {k4 : Int32 → Option Int32} (hn : nn ≤ 2000) (en : J 318 29 = nI nn) (ha : ∀ n, n < nn → R 342 n = -9 ∨ ∃ a, a < 2000 ∧ R 342 n = nI a) : ∀ (k i fu : Nat) (b : Option Nat), i + k = nn → k < fu → (∀ j, b = some j → j < 2000) → f_X7_nextOf_L5 J R k4 fu (nI i) (enc (-9) b) = k4 (enc (-9) (amin (qwk R) (qlt R) (List.range' i k) b)) := by
  intro k
  induction k with
  | zero =>
    intro i fu b hi hf hb
    obtain ⟨fu, rfl⟩ : ∃ z, fu = z + 1 := ⟨fu - 1, by omega⟩
    rw [f_X7_nextOf_L5, en, if_neg (nI_nlt (by omega) (by omega))]
    rfl
  | succ k ih =>
    intro i fu b hi hf hb
    obtain ⟨fu, rfl⟩ : ∃ z, fu = z + 1 := ⟨fu - 1, by omega⟩
    rw [f_X7_nextOf_L5, en, if_pos (nI_lt (by omega) (by omega)), gd_in (by omega) (by omega), t_cl (by omega), nI_1, List.range'_succ, amin]
    -- the join
    have hj : ∀ z : Int32, (z = 0 ∨ z = 1) → (z = 1 ↔ qwk R i = true) → (if z = 0 then (f_X7_nextOf_L5 J R k4 fu (nI (i + 1)) (enc (-9) b)) else (if enc (-9) b = (-9) then (f_X7_nextOf_L5 J R k4 fu (nI (i + 1)) (nI i)) else (Option.bind (f_X7_isAhead R (nI i) (enc (-9) b)) fun r15 => if r15 = 0 then (f_X7_nextOf_L5 J R k4 fu (nI (i + 1)) (enc (-9) b)) else (f_X7_nextOf_L5 J R k4 fu (nI (i + 1)) (nI i))))) = k4 (enc (-9) (amin (qwk R) (qlt R) (List.range' (i + 1) k) (if qwk R i = true then btr (qlt R) i b else b))) := fun z hz hq => by
      rcases hz with rfl | rfl
      · rw [if_pos rfl, if_neg (fun q => z01 (hq.mpr q))]
        exact ih (i + 1) fu b (by omega) (by omega) hb
      · rw [if_neg z10, if_pos (hq.mp rfl)]
        cases b with
        | none =>
          rw [if_pos (show enc (-9) none = -9 from rfl)]
          exact ih (i + 1) fu (some i) (by omega) (by omega) (fun j hj => by cases hj; omega)
        | some j =>
          have hj := hb j rfl
          show (if nI j = (-9) then _ else _) = _
          rw [if_neg (t_m9 (by omega))]
          show (Option.bind (f_X7_isAhead R (nI i) (nI j)) _) = _
          rw [r_isAhead (by omega) hj, Option.bind_some]
          rw [btr_s]
          by_cases hl : qlt R i j = true
          · rw [if_pos hl, if_neg z10, if_pos hl]
            exact ih (i + 1) fu (some i) (by omega) (by omega) (fun j hj => by cases hj; omega)
          · rw [if_neg hl, if_pos rfl, if_neg hl]
            exact ih (i + 1) fu (some j) (by omega) (by omega) hb
    simp only [bd]
    unfold qwk at hj ⊢
    by_cases h1 : R 345 i = 0
    · rw [if_pos h1]
      by_cases h2 : R 342 i = -9
      · rw [if_pos h2]
        exact hj 1 (Or.inr rfl) ⟨fun _ => decide_eq_true ⟨h1, Or.inl h2⟩, fun _ => rfl⟩
      · obtain ⟨a, ha1, ha2⟩ := (ha i (by omega)).resolve_left h2
        rw [if_neg h2, ha2, gd_in ha1 (by omega), t_cl (by omega)]
        rw [ha2, t_cl (by omega)] at hj
        by_cases h3 : R 345 a = 0
        · rw [if_pos h3]
          exact hj 0 (Or.inl rfl) ⟨fun q => absurd q z01, fun q => absurd (of_decide_eq_true q).2 (fun q => q.elim (t_m9 (by omega)) (fun q => q h3))⟩
        · rw [if_neg h3]
          exact hj 1 (Or.inr rfl) ⟨fun _ => decide_eq_true ⟨h1, Or.inr h3⟩, fun _ => rfl⟩
    · rw [if_neg h1]
      exact hj 0 (Or.inl rfl) ⟨fun q => absurd q z01, fun q => absurd (of_decide_eq_true q).1 h1⟩
theorem r_nextOf {J R : Nat → Nat → Int32} {nn : Nat} (hn : nn ≤ 2000) (en : J 318 29 = nI nn) (ha : ∀ n, n < nn → R 342 n = -9 ∨ ∃ a, a < 2000 ∧ R 342 n = nI a) : f_X7_nextOf J R = some (enc (-9) (amin (qwk R) (qlt R) (List.range' 0 nn) none)) := by
  simp only [f_X7_nextOf, bd]
  exact r_next_L hn en ha nn 0 FU none (by omega) (t_fu _ (by omega)) (fun j hj => by cases hj)
theorem r_free_L {J R : Nat → Nat → Int32} {nn : Nat} {a2 : Int32} {k21 : Int32 → Option ((Nat → Nat → Int32) × (Nat → Nat → Int32))} (hn : nn ≤ 2000) (en : J 318 29 = nI nn) : ∀ (k i fu : Nat) (b : Option Nat), i + k = nn → k < fu → (∀ j, b = some j → j < 2000) → f_X7_turnOf_L17 a2 J R k21 fu (nI i) (enc (-9) b) = k21 (enc (-9) (amin (qfr R) (qlt R) (List.range' i k) b)) := by
  intro k
  induction k with
  | zero =>
    intro i fu b hi hf hb
    obtain ⟨fu, rfl⟩ : ∃ z, fu = z + 1 := ⟨fu - 1, by omega⟩
    rw [f_X7_turnOf_L17, en, if_neg (nI_nlt (by omega) (by omega))]
    rfl
  | succ k ih =>
    intro i fu b hi hf hb
    obtain ⟨fu, rfl⟩ : ∃ z, fu = z + 1 := ⟨fu - 1, by omega⟩
    rw [f_X7_turnOf_L17, en, if_pos (nI_lt (by omega) (by omega)), gd_in (by omega) (by omega), t_cl (by omega), nI_1, List.range'_succ, amin]
    by_cases h1 : R 343 i = -9
    · rw [if_pos h1, if_pos (show qfr R i = true from decide_eq_true h1)]
      cases b with
      | none =>
        rw [if_pos (show enc (-9) none = -9 from rfl)]
        exact ih (i + 1) fu (some i) (by omega) (by omega) (fun j hj => by cases hj; omega)
      | some j =>
        have hj := hb j rfl
        show (if nI j = (-9) then _ else _) = _
        rw [if_neg (t_m9 (by omega))]
        show (Option.bind (f_X7_isAhead R (nI i) (nI j)) _) = _
        rw [r_isAhead (by omega) hj, Option.bind_some]
        rw [btr_s]
        by_cases hl : qlt R i j = true
        · rw [if_pos hl, if_neg z10, if_pos hl]
          exact ih (i + 1) fu (some i) (by omega) (by omega) (fun j hj => by cases hj; omega)
        · rw [if_neg hl, if_pos rfl, if_neg hl]
          exact ih (i + 1) fu (some j) (by omega) (by omega) hb
    · rw [if_neg h1, if_neg (show ¬ qfr R i = true from fun q => h1 (of_decide_eq_true q))]
      exact ih (i + 1) fu b (by omega) (by omega) hb
