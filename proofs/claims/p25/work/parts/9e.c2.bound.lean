/-! p25: a child's bound is not below its parent's -/
theorem nI_of_clamp {x : Int32} (h : ¬ x < 0) : nI x.toNatClampNeg = x := by
  obtain ⟨j, hj, rfl⟩ := nI_of h
  rw [nI_clamp hj]
section MB
variable {I A R : Nat → Nat → Int32} {B v p nv nr d y : Nat}
theorem cost_b (h : TPr I A R p B nv nr) {x k : Nat} (hx : x < 6) (hk : k < 6) : -100000 ≤ (A (B + 4 + x) k).toInt ∧ (A (B + 4 + x) k).toInt ≤ 100000 := (h.2.2.2.2.2.2.1 x k hx hk).2
theorem cost_ne (h : TPr I A R p B nv nr) {x k : Nat} (hx : x < 6) (hk : k < 6) : ¬ A (B + 4 + x) k = -1000000 := fun e => by
  have := cost_b h hx hk
  rw [e, show (-1000000 : Int32).toInt = -1000000 by decide] at this
  omega
/-- the least cost: what it is -/
theorem lcs_s (h : TPr I A R p B nv nr) {x : Nat} (hx : x < 6) : ∀ (k y0 : Nat) (b : Int32), y0 + k ≤ 6 → (b = -1000000 ∨ ∃ y, y < y0 ∧ ex1 (plo I A B v x y) nr 0 = 0 ∧ A (B + 4 + x) y = b) → (∀ y, y < y0 → ex1 (plo I A B v x y) nr 0 = 0 → ¬ b = -1000000 ∧ b.toInt ≤ (A (B + 4 + x) y).toInt) → (lcs I A B v x nr k y0 b = -1000000 ∨ ∃ y, y < y0 + k ∧ ex1 (plo I A B v x y) nr 0 = 0 ∧ A (B + 4 + x) y = lcs I A B v x nr k y0 b) ∧ ∀ y, y < y0 + k → ex1 (plo I A B v x y) nr 0 = 0 → ¬ lcs I A B v x nr k y0 b = -1000000 ∧ (lcs I A B v x nr k y0 b).toInt ≤ (A (B + 4 + x) y).toInt := by
  intro k
  induction k with
  | zero => intro y0 b _ h1 h2; exact ⟨h1, h2⟩
  | succ k ih =>
    intro y0 b hk h1 h2
    unfold lcs
    have e : y0 + (k + 1) = (y0 + 1) + k := by omega
    rw [e]
    have z := cost_ne h hx (show y0 < 6 by omega)
    by_cases c : ex1 (plo I A B v x y0) nr 0 = 0 ∧ (b = -1000000 ∨ A (B + 4 + x) y0 < b)
    · rw [if_pos c]
      refine ih (y0 + 1) _ (by omega) (Or.inr ⟨y0, by omega, c.1, rfl⟩) (fun y hy ha => ⟨z, ?_⟩)
      by_cases q : y = y0
      · subst q; omega
      · obtain ⟨g1, g2⟩ := h2 y (by omega) ha
        rcases c.2 with r | r
        · exact absurd r g1
        · have := ltI.mp r; omega
    · rw [if_neg c]
      refine ih (y0 + 1) b (by omega) ?_ (fun y hy ha => ?_)
      · rcases h1 with r | ⟨y, r1, r2⟩
        · exact Or.inl r
        · exact Or.inr ⟨y, by omega, r2⟩
      · by_cases q : y = y0
        · subst q
          have hb : ¬ b = -1000000 := fun r => c ⟨ha, Or.inl r⟩
          refine ⟨hb, ?_⟩
          have : ¬ A (B + 4 + x) y < b := fun r => c ⟨ha, Or.inr r⟩
          rw [ltI] at this
          omega
        · exact h2 y (by omega) ha
theorem lcs_0 (h : TPr I A R p B nv nr) {x s : Nat} (hx : x < 6) (hs : s ≤ 6) : (lcs I A B v x nr s 0 (-1000000) = -1000000 ∨ ∃ y, y < s ∧ ex1 (plo I A B v x y) nr 0 = 0 ∧ A (B + 4 + x) y = lcs I A B v x nr s 0 (-1000000)) ∧ ∀ y, y < s → ex1 (plo I A B v x y) nr 0 = 0 → ¬ lcs I A B v x nr s 0 (-1000000) = -1000000 ∧ (lcs I A B v x nr s 0 (-1000000)).toInt ≤ (A (B + 4 + x) y).toInt := by
  have := lcs_s (v := v) h hx s 0 (-1000000) (by omega) (Or.inl rfl) (fun y hy => absurd hy (by omega))
  rw [Nat.zero_add] at this
  exact this
/-- the bound is a sum -/
theorem bnd_s : ∀ (k i : Nat) (a : Int32), (bnd I A B v nr d k i a).1 = 0 → (bnd I A B v nr d k i a).2.2 = sm (lbd I A B v nr d) k i a ∧ ∀ j, i ≤ j → j < i + k → ¬ lbd I A B v nr d j = -1000000 := by
  intro k
  induction k with
  | zero => intro i a _; exact ⟨rfl, fun j h1 h2 => absurd h2 (by omega)⟩
  | succ k ih =>
    intro i a hq
    unfold bnd at hq ⊢
    by_cases c : lbd I A B v nr d i = -1000000
    · rw [if_pos c] at hq; exact absurd hq (show ¬ (3 : Int32) = 0 by decide)
    · rw [if_neg c] at hq ⊢
      obtain ⟨g1, g2⟩ := ih (i + 1) _ hq
      refine ⟨g1, fun j h1 h2 => ?_⟩
      by_cases e : j = i
      · subst e; exact c
      · exact g2 j (by omega) (by omega)
theorem row_in {A : Nat → Nat → Int32} (hr : RoW A B v d) (hd : d ≤ 6) {m : Nat} (hm : m < 6) : A v m = -1 ∨ (m < d ∧ ∃ x, x < szo A B m ∧ A v m = nI x) := by
  by_cases c : m < d
  · refine Or.inr ⟨c, (A v m).toNatClampNeg, ?_, ?_⟩
    · exact Nat.not_le.mp fun r => hr.1 m c (Or.inr r)
    · have h0 : ¬ A v m < 0 := fun r => hr.1 m c (Or.inl r)
      exact (nI_of_clamp h0).symm
  · exact Or.inl (hr.2 m (by omega) hm)
/-- a problem's rules, read with a row -/
theorem paw_of {F : Nat → Nat → Int32} (h : TPr I A R p B nv nr) (hF : ∀ j m, j ≠ v → F j m = A j m) (hv : v < 58) (hrow : ∀ m, m < 6 → F v m = -1 ∨ ∃ x, x < szo A B m ∧ F v m = nI x) {r : Nat} (hr : r < 8) : PaW F (B + 12 + 5 * r) v (B + 1) (nP I (B + 12 + 5 * r)) := by
  obtain ⟨hp, hB, hw, -, -, -, -, h5⟩ := h
  obtain ⟨n6, -, hin⟩ := hw.2.2.2.2.2 r hr
  obtain ⟨-, we, sz, -⟩ := h5 r hr
  refine ⟨n6, fun i hi => ?_⟩
  obtain ⟨s, s1, s2, es⟩ := sz i hi
  have hi6 := hin i hi
  have hm : (A (B + 12 + 5 * r + 1) i).toNatClampNeg < 6 := Nat.not_le.mp fun q => hi6 (Or.inr q)
  have em : A (B + 12 + 5 * r + 1) i = nI (A (B + 12 + 5 * r + 1) i).toNatClampNeg := (nI_of_clamp (fun q => hi6 (Or.inl q))).symm
  rw [hF (B + 12 + 5 * r + 1) i (by omega), hF (B + 12 + 5 * r + 2) i (by omega)]
  refine ⟨⟨_, hm, em⟩, (we i hi).1, (we i hi).2, s, s1, s2, by rw [hF (B + 1) _ (by omega)]; exact es, ?_⟩
  unfold pv
  rw [hF (B + 12 + 5 * r + 1) i (by omega)]
  rcases hrow _ hm with e | ⟨x, hx, e⟩
  · exact Or.inl e
  · refine Or.inr ⟨x, ?_, e⟩
    unfold szo at hx
    rw [es, nI_clamp (by omega)] at hx
    exact hx
theorem fbk_n : ∀ (k i : Nat), fst1 (pbr I A B v) k i = -9 → ∀ j, i ≤ j → j < i + k → i + k ≤ 100 → brk I A (B + 12 + 5 * j) v (B + 1) (nP I (B + 12 + 5 * j)) = 0 := by
  intro k
  induction k with
  | zero => intro i _ j h1 h2; omega
  | succ k ih =>
    intro i hq j h1 h2 h3
    unfold fst1 at hq
    by_cases c : pbr I A B v i = true
    · rw [if_pos c] at hq
      exact absurd hq (t_m9 (by omega))
    · rw [if_neg c] at hq
      by_cases e : j = i
      · subst e
        unfold pbr at c
        exact Decidable.not_not.mp (fun r => c (decide_eq_true r))
      · exact ih (i + 1) hq j (by omega) (by omega) (by omega)
theorem bnd_mono (h : TPr I A R p B nv nr) (hv : v < 58) (hro : RoW A B v d) (hd : d < nv) (hy : y < szo A B d) {A' : Nat → Nat → Int32} (hA' : A' = up2 A v d (nI y)) (h1 : (bnd I A B v nr d nv 0 0).1 = 0) (h2 : (bnd I A' B v nr (d + 1) nv 0 0).1 = 0) (h0 : fbk I A' B v nr = -9) : (bnd I A B v nr d nv 0 0).2.2.toInt ≤ (bnd I A' B v nr (d + 1) nv 0 0).2.2.toInt := by
  have hnv := h.2.2.1.1
  have hnr := h.2.2.1.2.1
  have hB := h.2.1
  have sz6 : ∀ m, m < nv → szo A B m ≤ 6 := fun m hm => (pr_sz h.2.2.1 hm).2.2
  obtain ⟨e1, g1⟩ := bnd_s _ _ _ h1
  obtain ⟨e2, g2⟩ := bnd_s _ _ _ h2
  rw [e1, e2]
  have oA : ∀ j m, j ≠ v → A' j m = A j m := fun j m q => by rw [hA', up2_j q]
  have z0 : (0 : Int32).toInt = 0 := by decide
  have hval : ∀ m, m < 6 → m ≠ d → A' v m = A v m := fun m _ q => by rw [hA', up2_k q]
  have hvd : A' v d = nI y := by rw [hA', up2_s]
  have key : ∀ j, j < nv → (lbd I A B v nr d j).toInt ≤ (lbd I A' B v nr (d + 1) j).toInt ∧ -100000 ≤ (lbd I A B v nr d j).toInt ∧ (lbd I A B v nr d j).toInt ≤ 100000 ∧ -100000 ≤ (lbd I A' B v nr (d + 1) j).toInt ∧ (lbd I A' B v nr (d + 1) j).toInt ≤ 100000 := by
    intro j hj
    have k1 := g1 j (by omega) (by omega)
    have k2 := g2 j (by omega) (by omega)
    unfold lbd at k1 k2 ⊢
    have s6 := sz6 j hj
    have hP' : TPr I A' R p B nv nr := TPr_of h (fun _ _ _ _ => rfl) (fun a b q1 q2 => oA a b (by omega)) (fun _ _ _ _ => rfl)
    have es : szo A' B j = szo A B j := by unfold szo; rw [oA _ _ (by omega)]
    by_cases c : j < d
    · rw [if_pos c, if_pos (show j < d + 1 by omega), oA _ _ (by omega), hval j (by omega) (by omega)]
      have hj6 : (A v j).toNatClampNeg < 6 := by
        have : (A v j).toNatClampNeg < szo A B j := Nat.not_le.mp fun r => hro.1 j c (Or.inr r)
        omega
      have := cost_b h (x := j) (by omega) hj6
      omega
    · by_cases c2 : j = d
      · subst c2
        rw [if_neg c] at k1 ⊢
        rw [if_pos (show j < j + 1 by omega), oA _ _ (by omega), hvd, nI_clamp (by omega)]
        obtain ⟨l1, l2⟩ := lcs_0 (v := v) h (x := j) (s := szo A B j) (by omega) s6
        have al : ex1 (plo I A B v j y) nr 0 = 0 := by
          refine (ex1_01 _ _ _).resolve_right fun r => ?_
          obtain ⟨i, _, i2, i3⟩ := (ex1_i _ _ _).mp r
          unfold plo at i3
          have i3 := of_decide_eq_true i3
          rw [← hA'] at i3
          exact i3.2 (fbk_n nr 0 h0 i (by omega) (by omega) (by omega))
        obtain ⟨y0, q1, q2, q3⟩ := l1.resolve_left k1
        have c1 := cost_b h (x := j) (k := y0) (by omega) (by omega)
        have c3 := cost_b h (x := j) (k := y) (by omega) (by omega)
        have := (l2 y hy al).2
        rw [q3] at c1
        omega
      · rw [if_neg c] at k1 ⊢
        rw [if_neg (show ¬ j < d + 1 by omega)] at k2 ⊢
        rw [es] at k2 ⊢
        obtain ⟨l1, l2⟩ := lcs_0 (v := v) h (x := j) (s := szo A B j) (by omega) s6
        obtain ⟨m1, m2⟩ := lcs_0 (v := v) hP' (x := j) (s := szo A B j) (by omega) s6
        obtain ⟨y0, q1, q2, q3⟩ := l1.resolve_left k1
        obtain ⟨y1, r1, r2, r3⟩ := m1.resolve_left k2
        rw [oA _ _ (by omega)] at r3
        have al : ex1 (plo I A B v j y1) nr 0 = 0 := by
          refine (ex1_01 _ _ _).resolve_right fun r => ?_
          obtain ⟨i, _, i2, i3⟩ := (ex1_i _ _ _).mp r
          unfold plo at i3
          have i3 := of_decide_eq_true i3
          have hext : Ext (up2 A v j (nI y1)) (up2 A' v j (nI y1)) v := by
            refine ⟨fun a b q => by rw [up2_j q, up2_j q, oA a b q], fun m hm => ?_⟩
            by_cases e : m = j
            · subst e; rw [up2_s, up2_s]; exact Or.inr rfl
            · rw [up2_k e, up2_k e]
              by_cases e2 : m = d
              · subst e2; exact Or.inl (hro.2 m (by omega) hm)
              · exact Or.inr (hval m hm e2)
          have hpw : PaW (up2 A' v j (nI y1)) (B + 12 + 5 * i) v (B + 1) (nP I (B + 12 + 5 * i)) := paw_of h (fun a b q => by rw [up2_j q, oA a b q]) hv (fun m hm => by
            by_cases e : m = j
            · subst e; rw [up2_s]; exact Or.inr ⟨y1, r1, rfl⟩
            · rw [up2_k e]
              by_cases e2 : m = d
              · subst e2; rw [hvd]; exact Or.inr ⟨y, hy, rfl⟩
              · rw [hval m hm e2]
                rcases row_in hro (by omega) hm with q | ⟨_, q⟩
                · exact Or.inl q
                · exact Or.inr q) (by omega)
          have bad := brk_mono (I := I) hext (by omega) (by omega) (by omega) hpw i3.2
          have : ex1 (plo I A' B v j y1) nr 0 = 1 := (ex1_i _ _ _).mpr ⟨i, by omega, i2, by
            unfold plo
            refine decide_eq_true ⟨?_, bad⟩
            rw [oA _ _ (by omega)]
            exact i3.1⟩
          rw [this] at r2
          exact absurd r2 (by decide)
        have c1 := cost_b h (x := j) (k := y0) (by omega) (by omega)
        have c2 := cost_b h (x := j) (k := y1) (by omega) (by omega)
        have := (l2 y1 r1 al).2
        rw [q3] at c1
        rw [r3] at c2 this
        omega
  have hp : 0 ≤ (100000 : Int) * (20 - (nv : Int)) := Int.mul_nonneg (by decide) (by omega)
  refine sm_le (M := 100000) (by omega) (by omega) nv 0 0 0 (by omega) (fun j _ q => key j (by omega)) (by omega) ?_ ?_ ?_ ?_ <;> rw [z0] <;> omega
end MB
