/-! p25: the order of nodes, and counting them -/
section OR
variable {I A R : Nat → Nat → Int32} {B v p nv nr d n m : Nat}
/-- n comes before m -/
def Lt (R : Nat → Nat → Int32) (n m : Nat) : Prop := (R 341 n).toInt < (R 341 m).toInt ∨ ((R 341 n).toInt = (R 341 m).toInt ∧ (R 340 n).toInt < (R 340 m).toInt)
theorem qlt_i : qlt R n m = true ↔ Lt R n m := by
  unfold qlt Lt
  rw [decide_eq_true_iff, ltI, ltI]
  constructor
  · rintro (h | ⟨h, k⟩)
    · exact Or.inl h
    · exact Or.inr ⟨by rw [h], k⟩
  · rintro (h | ⟨h, k⟩)
    · exact Or.inl h
    · exact Or.inr ⟨Int32.toInt_inj.mp h, k⟩
theorem Lt_tr {a b c : Nat} (h : Lt R a b) (k : Lt R b c) : Lt R a c := by unfold Lt at *; omega
theorem Lt_ir {a : Nat} : ¬ Lt R a a := by unfold Lt; omega
theorem Lt_as {a b : Nat} (h : Lt R a b) : ¬ Lt R b a := by unfold Lt at *; omega
theorem Lt_tot {a b : Nat} (hk : ¬ R 340 a = R 340 b) : Lt R a b ∨ Lt R b a := by
  have : ¬ (R 340 a).toInt = (R 340 b).toInt := fun e => hk (Int32.toInt_inj.mp e)
  unfold Lt
  omega
theorem Lt_c {R' : Nat → Nat → Int32} (h1 : R' 341 n = R 341 n) (h2 : R' 340 n = R 340 n) (h3 : R' 341 m = R 341 m) (h4 : R' 340 m = R 340 m) : Lt R' n m ↔ Lt R n m := by
  unfold Lt; rw [h1, h2, h3, h4]
/-- the least of those that P takes -/
theorem amin_l {P : Nat → Bool} : ∀ (l : List Nat) (b : Option Nat) (x : Nat), amin P (qlt R) l b = some x → (∀ j, b = some j → x = j ∨ ¬ Lt R j x) ∧ ∀ j ∈ l, P j = true → x = j ∨ ¬ Lt R j x
  | [], b, x, h => ⟨fun j e => by
      have h' : b = some x := h
      rw [h'] at e
      exact Or.inl (Option.some.inj e), fun j hj => absurd hj (by simp)⟩
  | i :: l, b, x, h => by
    rw [amin] at h
    obtain ⟨h1, h2⟩ := amin_l l _ x h
    by_cases hp : P i = true
    · rw [if_pos hp] at h1
      cases b with
      | none =>
        have := h1 i rfl
        refine ⟨fun j e => (by cases e), fun j hj hq => ?_⟩
        rcases List.mem_cons.mp hj with rfl | hj
        · exact this
        · exact h2 j hj hq
      | some j0 =>
        rw [btr_s] at h1
        by_cases q : qlt R i j0 = true
        · rw [if_pos q] at h1
          have hi := h1 i rfl
          refine ⟨fun j e => ?_, fun j hj hq => ?_⟩
          · cases e
            rcases hi with rfl | hi
            · exact Or.inr (Lt_as (qlt_i.mp q))
            · exact Or.inr fun r => hi (Lt_tr (qlt_i.mp q) r)
          · rcases List.mem_cons.mp hj with rfl | hj
            · exact hi
            · exact h2 j hj hq
        · rw [if_neg q] at h1
          have h0 := h1 j0 rfl
          refine ⟨fun j e => (by cases e; exact h0), fun j hj hq => ?_⟩
          rcases List.mem_cons.mp hj with rfl | hj
          · have q : ¬ Lt R j j0 := fun r => q (qlt_i.mpr r)
            rcases h0 with rfl | h0
            · exact Or.inr q
            · exact Or.inr fun r => by unfold Lt at *; omega
          · exact h2 j hj hq
    · rw [if_neg hp] at h1
      refine ⟨h1, fun j hj hq => ?_⟩
      rcases List.mem_cons.mp hj with rfl | hj
      · exact absurd hq hp
      · exact h2 j hj hq
theorem e7_x {w : Nat → Nat} {y : Nat} (hd : d < 6) : e7 w d < e7 (wx w d y) (d + 1) := by
  have h : ∀ i, i < 6 → dg (wx w d y) (d + 1) i = if i < d then w i + 1 else if i = d then y + 1 else 0 := fun i hi => by
    unfold dg wx
    by_cases c : i < d
    · rw [if_pos c, if_pos (by omega), if_neg (by omega)]
    · rw [if_neg c]
      by_cases e : i = d
      · rw [if_pos e, if_pos (by omega), if_pos e]
      · rw [if_neg (show ¬ i < d + 1 by omega), if_neg e]
  have g : ∀ i, dg w d i = if i < d then w i + 1 else 0 := fun i => rfl
  unfold e7
  rw [h 0 (by omega), h 1 (by omega), h 2 (by omega), h 3 (by omega), h 4 (by omega), h 5 (by omega), g, g, g, g, g, g]
  rcases (show d = 0 ∨ d = 1 ∨ d = 2 ∨ d = 3 ∨ d = 4 ∨ d = 5 by omega) with rfl | rfl | rfl | rfl | rfl | rfl <;> simp <;> omega
theorem e7_inj {w u : Nat → Nat} {k : Nat} (h : ∀ i, i < d → w i < 6) (g : ∀ i, i < k → u i < 6) (hd : d ≤ 6) (hk : k ≤ 6) (e : e7 w d = e7 u k) : d = k ∧ ∀ i, i < d → w i = u i := by
  have dw : ∀ i, dg w d i ≤ 6 := fun i => by
    unfold dg
    by_cases c : i < d
    · rw [if_pos c]; have := h i c; omega
    · rw [if_neg c]; omega
  have du : ∀ i, dg u k i ≤ 6 := fun i => by
    unfold dg
    by_cases c : i < k
    · rw [if_pos c]; have := g i c; omega
    · rw [if_neg c]; omega
  have eq : ∀ i, i < 6 → dg w d i = dg u k i := by
    unfold e7 at e
    have a0 := dw 0; have a1 := dw 1; have a2 := dw 2; have a3 := dw 3; have a4 := dw 4; have a5 := dw 5
    have b0 := du 0; have b1 := du 1; have b2 := du 2; have b3 := du 3; have b4 := du 4; have b5 := du 5
    intro i hi
    rcases (show i = 0 ∨ i = 1 ∨ i = 2 ∨ i = 3 ∨ i = 4 ∨ i = 5 by omega) with rfl | rfl | rfl | rfl | rfl | rfl <;> omega
  have pos : ∀ i, i < 6 → (i < d ↔ i < k) := fun i hi => by
    have := eq i hi
    unfold dg at this
    by_cases c : i < d <;> by_cases c2 : i < k
    · exact ⟨fun _ => c2, fun _ => c⟩
    · rw [if_pos c, if_neg c2] at this; omega
    · rw [if_neg c, if_pos c2] at this; omega
    · exact ⟨fun q => absurd q c, fun q => absurd q c2⟩
  have hdk : d = k := by
    rcases Nat.lt_trichotomy d k with r | r | r
    · exact absurd ((pos d (by omega)).mpr r) (by omega)
    · exact r
    · exact absurd ((pos k (by omega)).mp r) (by omega)
  refine ⟨hdk, fun i hi => ?_⟩
  have := eq i (by omega)
  unfold dg at this
  rw [if_pos hi, if_pos (by omega)] at this
  omega
theorem lk0 {I A : Nat → Nat → Int32} (h : (lk I A B v nv nr d 1).1 = 0) : fbk I A B v nr = -9 ∧ (bnd I A B v nr d nv 0 0).1 = 0 ∧ (lk I A B v nv nr d 1).2.2 = (bnd I A B v nr d nv 0 0).2.2 := by
  unfold lk at h ⊢
  by_cases c : fbk I A B v nr = -9
  · rw [if_pos c] at h ⊢
    by_cases q : (1 : Int32) = 0 ∨ d = 0 ∨ ftw I A B v nr (d - 1) = -9
    · rw [if_pos q] at h ⊢; exact ⟨c, h, rfl⟩
    · rw [if_neg q] at h; exact absurd h (show ¬ (2 : Int32) = 0 by decide)
  · rw [if_neg c] at h; exact absurd h (show ¬ (1 : Int32) = 0 by decide)
/-- a child comes behind its parent -/
theorem lkw_mono (h : TPr I A R p B nv nr) (hv : v < 58) {w : Nat → Nat} {y : Nat} (hw : ∀ i, i < d → w i < szo A B i) (hd : d < nv) (hy : y < szo A B d) (h1 : (lkw I A B v nv nr w d).1 = 0) (h2 : (lkw I A B v nv nr (wx w d y) (d + 1)).1 = 0) : (lkw I A B v nv nr w d).2.2.toInt ≤ (lkw I A B v nv nr (wx w d y) (d + 1)).2.2.toInt := by
  have hB := h.2.1
  have hnv := h.2.2.1.1
  have hsz : ∀ i, i < nv → szo A B i ≤ 6 := fun i hi => (pr_sz h.2.2.1 hi).2.2
  have oA : ∀ j m, j ≠ v → Aw A v w d j m = A j m := fun j m q => by unfold Aw; rw [if_neg q]
  have hP : TPr I (Aw A v w d) R p B nv nr := TPr_of h (fun _ _ _ _ => rfl) (fun j m q1 q2 => oA j m (by omega)) (fun _ _ _ _ => rfl)
  have es : ∀ i, szo (Aw A v w d) B i = szo A B i := fun i => by unfold szo; rw [oA _ _ (by omega)]
  have hro : RoW (Aw A v w d) B v d := by
    refine ⟨fun i hi => ?_, fun i q1 q2 => ?_⟩
    · rw [es]
      unfold Aw
      rw [if_pos rfl, if_pos hi]
      exact vp_in_nI (hw i hi) (by have := hsz i (by omega); omega)
    · unfold Aw; rw [if_pos rfl, if_neg (by omega)]
  have eA : Aw A v (wx w d y) (d + 1) = up2 (Aw A v w d) v d (nI y) := by
    funext j m
    unfold up2 Aw wx
    by_cases c : j = v
    · rw [if_pos c, if_pos c]
      by_cases e : m = d
      · rw [if_pos (show m < d + 1 by omega), if_pos e, if_pos ⟨c, e⟩]
      · rw [if_neg (show ¬ (j = v ∧ m = d) from fun q => e q.2)]
        by_cases e2 : m < d
        · rw [if_pos (show m < d + 1 by omega), if_neg e, if_pos e2]
        · rw [if_neg (show ¬ m < d + 1 by omega), if_neg e2]
    · rw [if_neg c, if_neg c, if_neg (fun q => c q.1)]
  unfold lkw at h1 h2 ⊢
  obtain ⟨a1, a2, a3⟩ := lk0 h1
  obtain ⟨b1, b2, b3⟩ := lk0 h2
  rw [a3, b3]
  exact bnd_mono hP hv hro hd (by rw [es]; exact hy) eA a2 b2 b1
/-- how many below n -/
def cnt (P : Nat → Bool) : Nat → Nat
  | 0 => 0
  | n + 1 => cnt P n + (if P n = true then 1 else 0)
theorem cnt_c {P Q : Nat → Bool} : ∀ (n : Nat), (∀ i, i < n → P i = Q i) → cnt P n = cnt Q n
  | 0, _ => rfl
  | n + 1, h => by rw [cnt, cnt, cnt_c n (fun i hi => h i (by omega)), h n (by omega)]
theorem cnt_le {P Q : Nat → Bool} : ∀ (n : Nat), (∀ i, i < n → P i = true → Q i = true) → cnt P n ≤ cnt Q n
  | 0, _ => Nat.le_refl _
  | n + 1, h => by
    rw [cnt, cnt]
    have := cnt_le n (fun i hi => h i (by omega))
    by_cases c : P n = true
    · rw [if_pos c, if_pos (h n (by omega) c)]; omega
    · rw [if_neg c]; omega
/-- one more -/
theorem cnt_s {P Q : Nat → Bool} {x : Nat} : ∀ (n : Nat), x < n → (∀ i, i < n → i ≠ x → P i = Q i) → P x = false → Q x = true → cnt Q n = cnt P n + 1
  | 0, h, _, _, _ => absurd h (by omega)
  | n + 1, h, hq, h0, h1 => by
    rw [cnt, cnt]
    by_cases e : x = n
    · subst e
      rw [if_pos h1, if_neg (by rw [h0]; decide), cnt_c (P := P) (Q := Q) x (fun i hi => hq i (by omega) (by omega))]
    · rw [cnt_s (P := P) (Q := Q) n (by omega) (fun i hi => hq i (by omega)) h0 h1, hq n (by omega) (Ne.symm e)]
      omega
theorem cnt_x {P : Nat → Bool} : ∀ (n k : Nat), (∀ i, n ≤ i → i < n + k → P i = false) → cnt P (n + k) = cnt P n
  | n, 0, _ => rfl
  | n, k + 1, h => by
    have e : cnt P (n + (k + 1)) = cnt P (n + k) + (if P (n + k) = true then 1 else 0) := rfl
    rw [e, if_neg (by rw [h (n + k) (by omega) (by omega)]; decide), cnt_x n k (fun i h1 h2 => h i h1 (by omega))]
    rfl
/-- a part of them, and the others -/
theorem cnt_p {P Q : Nat → Bool} : ∀ (n : Nat), (∀ i, i < n → Q i = true → P i = true) → cnt P n = cnt Q n + cnt (fun i => P i && !Q i) n
  | 0, _ => rfl
  | n + 1, h => by
    rw [cnt, cnt, cnt, cnt_p n (fun i hi => h i (by omega))]
    have := h n (by omega)
    cases hp : P n <;> cases hq : Q n <;> simp_all <;> omega
end OR
