/-! p25: a longer row breaks what a shorter one breaks -/
theorem mulI {a b : Int32} (h1 : -50 ≤ a.toInt) (h2 : a.toInt ≤ 50) (h3 : 0 ≤ b.toInt) (h4 : b.toInt ≤ 5) : (a * b).toInt = a.toInt * b.toInt ∧ -250 ≤ a.toInt * b.toInt ∧ a.toInt * b.toInt ≤ 250 := by
  have hb : -250 ≤ a.toInt * b.toInt ∧ a.toInt * b.toInt ≤ 250 := by
    rcases (show b.toInt = 0 ∨ b.toInt = 1 ∨ b.toInt = 2 ∨ b.toInt = 3 ∨ b.toInt = 4 ∨ b.toInt = 5 by omega) with h | h | h | h | h | h <;> rw [h] <;> omega
  refine ⟨?_, hb⟩
  rw [Int32.toInt_mul, Int.bmod_eq_of_le (by omega) (by omega)]
theorem addI {a b : Int32} (h1 : -1000000000 ≤ a.toInt) (h2 : a.toInt ≤ 1000000000) (h3 : -1000000000 ≤ b.toInt) (h4 : b.toInt ≤ 1000000000) : (a + b).toInt = a.toInt + b.toInt := by
  rw [Int32.toInt_add, Int.bmod_eq_of_le (by omega) (by omega)]
/-- sums of small numbers keep an order -/
theorem sm_le {f g : Nat → Int32} {M : Int} (hM : 0 ≤ M) (hM2 : M ≤ 10000000) : ∀ (k i : Nat) (a b : Int32), k ≤ 20 → (∀ j, i ≤ j → j < i + k → (f j).toInt ≤ (g j).toInt ∧ -M ≤ (f j).toInt ∧ (f j).toInt ≤ M ∧ -M ≤ (g j).toInt ∧ (g j).toInt ≤ M) → a.toInt ≤ b.toInt → -(M * (20 - k)) ≤ a.toInt → a.toInt ≤ M * (20 - k) → -(M * (20 - k)) ≤ b.toInt → b.toInt ≤ M * (20 - k) → (sm f k i a).toInt ≤ (sm g k i b).toInt := by
  intro k
  induction k with
  | zero => intro i a b _ _ h _ _ _ _; exact h
  | succ k ih =>
    intro i a b hk h hab h1 h2 h3 h4
    obtain ⟨q1, q2, q3, q4, q5⟩ := h i (by omega) (by omega)
    have e : M * (20 - ((k + 1 : Nat) : Int)) = M * (20 - (k : Int)) - M := by
      rw [show (20 - ((k + 1 : Nat) : Int)) = (20 - (k : Int)) - 1 by omega, Int.mul_sub, Int.mul_one]
    have hb : M * (20 - (k : Int)) ≤ M * 20 := Int.mul_le_mul_of_nonneg_left (by omega) hM
    rw [e] at h1 h2 h3 h4
    have ea := addI (a := a) (b := f i) (by omega) (by omega) (by omega) (by omega)
    have eb := addI (a := b) (b := g i) (by omega) (by omega) (by omega) (by omega)
    exact ih (i + 1) (a + f i) (b + g i) (by omega) (fun j p1 p2 => h j (by omega) (by omega)) (by omega) (by omega) (by omega) (by omega) (by omega)
theorem sm_le0 {f g : Nat → Int32} {n : Nat} (hn : n ≤ 6) (h : ∀ j, j < n → (f j).toInt ≤ (g j).toInt ∧ -1000 ≤ (f j).toInt ∧ (f j).toInt ≤ 1000 ∧ -1000 ≤ (g j).toInt ∧ (g j).toInt ≤ 1000) : (sm f n 0 0).toInt ≤ (sm g n 0 0).toInt := by
  have z : (0 : Int32).toInt = 0 := by decide
  have hp : 0 ≤ (1000 : Int) * (20 - (n : Int)) := Int.mul_nonneg (by decide) (by omega)
  refine sm_le (M := 1000) (by omega) (by omega) n 0 0 0 (by omega) (fun j _ p => h j (by omega)) (by omega) ?_ ?_ ?_ ?_ <;> rw [z] <;> omega
section MO
variable {I A A' : Nat → Nat → Int32} {q v z n : Nat}
/-- A' has the row of A, and perhaps more of it -/
def Ext (A A' : Nat → Nat → Int32) (v : Nat) : Prop := (∀ j m, j ≠ v → A' j m = A j m) ∧ ∀ i, i < 6 → A v i = -1 ∨ A' v i = A v i
/-- the parts of a rule: small weights, values within their sizes -/
def PaW (A : Nat → Nat → Int32) (q v z n : Nat) : Prop := n ≤ 6 ∧ ∀ i, i < n → (∃ m, m < 6 ∧ A (q + 1) i = nI m) ∧ -50 ≤ (A (q + 2) i).toInt ∧ (A (q + 2) i).toInt ≤ 50 ∧ ∃ s, 1 ≤ s ∧ s ≤ 6 ∧ A z (A (q + 1) i).toNatClampNeg = nI s ∧ (pv A q v i = -1 ∨ ∃ x, x < s ∧ pv A q v i = nI x)
theorem m1_ne {x : Nat} (h : x < 2147483648) : ¬ nI x = -1 := by
  intro e
  have := congrArg Int32.toInt e
  rw [nI_toInt (by omega), show (-1 : Int32).toInt = -1 by decide] at this
  omega
theorem s_1 {s : Nat} (h1 : 1 ≤ s) (h2 : s ≤ 6) : (nI s - 1).toInt = (s : Int) - 1 := by
  rw [Int32.toInt_sub, nI_toInt (by omega), show (1 : Int32).toInt = 1 by decide, Int.bmod_eq_of_le (by omega) (by omega)]
/-- x parts: the part's value in both -/
theorem pv_ext (h : Ext A A' v) (h1 : q + 1 ≠ v) {i m : Nat} (hm : m < 6) (e : A (q + 1) i = nI m) : pv A q v i = -1 ∨ pv A' q v i = pv A q v i := by
  unfold pv
  rw [h.1 _ _ h1, e, nI_clamp (by omega)]
  exact h.2 m hm
theorem prodI {w : Int32} {s x : Nat} (h1 : -50 ≤ w.toInt) (h2 : w.toInt ≤ 50) (hx : x < s) (hs : s ≤ 6) : (w * (nI s - 1)).toInt = w.toInt * ((s : Int) - 1) ∧ (w * nI x).toInt = w.toInt * (x : Int) ∧ -250 ≤ w.toInt * ((s : Int) - 1) ∧ w.toInt * ((s : Int) - 1) ≤ 250 ∧ -250 ≤ w.toInt * (x : Int) ∧ w.toInt * (x : Int) ≤ 250 ∧ ((0 ≤ w.toInt ∧ 0 ≤ w.toInt * (x : Int) ∧ w.toInt * (x : Int) ≤ w.toInt * ((s : Int) - 1)) ∨ (w.toInt ≤ 0 ∧ w.toInt * (x : Int) ≤ 0 ∧ w.toInt * ((s : Int) - 1) ≤ w.toInt * (x : Int))) := by
  have e1 := s_1 (s := s) (by omega) hs
  have e2 : (nI x).toInt = (x : Int) := nI_toInt (by omega)
  obtain ⟨a1, a2, a3⟩ := mulI (b := nI s - 1) h1 h2 (by omega) (by omega)
  obtain ⟨b1, b2, b3⟩ := mulI (b := nI x) h1 h2 (by omega) (by omega)
  rw [e1] at a1 a2 a3
  rw [e2] at b1 b2 b3
  refine ⟨a1, b1, a2, a3, b2, b3, ?_⟩
  rcases Int.le_total 0 w.toInt with hw | hw
  · exact Or.inl ⟨hw, Int.mul_nonneg hw (by omega), Int.mul_le_mul_of_nonneg_left (by omega) hw⟩
  · refine Or.inr ⟨hw, ?_, ?_⟩
    · exact Int.mul_nonpos_of_nonpos_of_nonneg hw (by omega)
    · exact Int.mul_le_mul_of_nonpos_left hw (by omega)
theorem ltI {a b : Int32} : a < b ↔ a.toInt < b.toInt := Int32.lt_iff_toInt_lt
theorem tl_le (h : Ext A A' v) (h1 : q + 1 ≠ v) (h2 : q + 2 ≠ v) (hz : z ≠ v) (hp : PaW A' q v z n) {i : Nat} (hi : i < n) : (tl A q v z i).toInt ≤ (tl A' q v z i).toInt ∧ -1000 ≤ (tl A q v z i).toInt ∧ (tl A q v z i).toInt ≤ 1000 ∧ -1000 ≤ (tl A' q v z i).toInt ∧ (tl A' q v z i).toInt ≤ 1000 := by
  obtain ⟨⟨m, hm, em⟩, w1, w2, s, s1, s2, es, hv⟩ := hp.2 i hi
  rw [h.1 _ _ h1] at em
  rw [h.1 _ _ h2] at w1 w2
  rw [h.1 _ _ h1, h.1 _ _ hz] at es
  have z0 : (0 : Int32).toInt = 0 := by decide
  have key : ∀ x, x < s → ∀ t, (t = (if (A (q + 2) i * (nI s - 1)) < 0 then A (q + 2) i * (nI s - 1) else 0)) → t.toInt ≤ (A (q + 2) i * nI x).toInt ∧ -1000 ≤ t.toInt ∧ t.toInt ≤ 1000 ∧ -1000 ≤ (A (q + 2) i * nI x).toInt ∧ (A (q + 2) i * nI x).toInt ≤ 1000 := by
    intro x hx t ht
    obtain ⟨p1, p2, p3, p4, p5, p6, p7⟩ := prodI w1 w2 hx s2
    subst ht
    rw [p2]
    split
    · rename_i c; rw [ltI, p1, z0] at c; rw [p1]; omega
    · rename_i c; rw [ltI, p1, z0] at c; rw [z0]; omega
  unfold tl
  rw [h.1 _ _ h1, h.1 _ _ h2, h.1 _ _ hz, es]
  rcases pv_ext h h1 hm em with e | e
  · rw [if_pos e]
    rcases hv with f | ⟨x, hx, f⟩
    · rw [if_pos f]
      have := key 0 (by omega) _ rfl
      omega
    · have nf : ¬ pv A' q v i = -1 := by rw [f]; exact m1_ne (by omega)
      rw [if_neg nf, f]
      exact key x hx _ rfl
  · rw [e]
    rcases hv with f | ⟨x, hx, f⟩
    · rw [e] at f
      rw [if_pos f]
      have := key 0 (by omega) _ rfl
      omega
    · rw [e] at f
      rw [if_neg (by rw [f]; exact m1_ne (by omega)), f]
      have := key x hx _ rfl
      omega
theorem tg_le (h : Ext A A' v) (h1 : q + 1 ≠ v) (h2 : q + 2 ≠ v) (hz : z ≠ v) (hp : PaW A' q v z n) {i : Nat} (hi : i < n) : (tg A' q v z i).toInt ≤ (tg A q v z i).toInt ∧ -1000 ≤ (tg A' q v z i).toInt ∧ (tg A' q v z i).toInt ≤ 1000 ∧ -1000 ≤ (tg A q v z i).toInt ∧ (tg A q v z i).toInt ≤ 1000 := by
  obtain ⟨⟨m, hm, em⟩, w1, w2, s, s1, s2, es, hv⟩ := hp.2 i hi
  rw [h.1 _ _ h1] at em
  rw [h.1 _ _ h2] at w1 w2
  rw [h.1 _ _ h1, h.1 _ _ hz] at es
  have z0 : (0 : Int32).toInt = 0 := by decide
  have key : ∀ x, x < s → ∀ t, (t = (if 0 < (A (q + 2) i * (nI s - 1)) then A (q + 2) i * (nI s - 1) else 0)) → (A (q + 2) i * nI x).toInt ≤ t.toInt ∧ -1000 ≤ t.toInt ∧ t.toInt ≤ 1000 ∧ -1000 ≤ (A (q + 2) i * nI x).toInt ∧ (A (q + 2) i * nI x).toInt ≤ 1000 := by
    intro x hx t ht
    obtain ⟨p1, p2, p3, p4, p5, p6, p7⟩ := prodI w1 w2 hx s2
    subst ht
    rw [p2]
    split
    · rename_i c; rw [ltI, p1, z0] at c; rw [p1]; omega
    · rename_i c; rw [ltI, p1, z0] at c; rw [z0]; omega
  unfold tg
  rw [h.1 _ _ h1, h.1 _ _ h2, h.1 _ _ hz, es]
  rcases pv_ext h h1 hm em with e | e
  · rw [if_pos e]
    rcases hv with f | ⟨x, hx, f⟩
    · rw [if_pos f]
      have := key 0 (by omega) _ rfl
      omega
    · rw [if_neg (by rw [f]; exact m1_ne (by omega)), f]
      have := key x hx _ rfl
      omega
  · rw [e]
    rcases hv with f | ⟨x, hx, f⟩
    · rw [e] at f
      rw [if_pos f]
      have := key 0 (by omega) _ rfl
      omega
    · rw [e] at f
      rw [if_neg (by rw [f]; exact m1_ne (by omega)), f]
      have := key x hx _ rfl
      omega
theorem tw_le (h : Ext A A' v) (h1 : q + 1 ≠ v) (h2 : q + 2 ≠ v) (hp : PaW A' q v z n) {i : Nat} (hi : i < n) : (tw A' q v i).toInt ≤ (tw A q v i).toInt ∧ -1000 ≤ (tw A' q v i).toInt ∧ (tw A' q v i).toInt ≤ 1000 ∧ -1000 ≤ (tw A q v i).toInt ∧ (tw A q v i).toInt ≤ 1000 := by
  obtain ⟨⟨m, hm, em⟩, -⟩ := hp.2 i hi
  rw [h.1 _ _ h1] at em
  have z0 : (0 : Int32).toInt = 0 := by decide
  have z1 : (1 : Int32).toInt = 1 := by decide
  have b : ∀ F : Nat → Nat → Int32, (tw F q v i).toInt = 0 ∨ (tw F q v i).toInt = 1 := fun F => by
    unfold tw
    split
    · exact Or.inr z1
    · exact Or.inl z0
  have c : (tw A' q v i).toInt ≤ (tw A q v i).toInt := by
    rcases pv_ext h h1 hm em with e | e
    · have : tw A q v i = 1 := by unfold tw; rw [if_pos (Or.inl e)]
      rw [this, z1]
      rcases b A' with r | r <;> omega
    · have : tw A' q v i = tw A q v i := by unfold tw; rw [e, h.1 _ _ h2]
      rw [this]
      omega
  rcases b A with r | r <;> rcases b A' with r' | r' <;> omega
theorem to_le (h : Ext A A' v) (h1 : q + 1 ≠ v) (h2 : q + 2 ≠ v) (hp : PaW A' q v z n) {i x : Nat} (hi : i < n) (hx : x < 6) : (tv A q v (nI x) i + to A q v i).toInt ≤ (tv A' q v (nI x) i + to A' q v i).toInt ∧ -1000 ≤ (tv A q v (nI x) i + to A q v i).toInt ∧ (tv A q v (nI x) i + to A q v i).toInt ≤ 1000 ∧ -1000 ≤ (tv A' q v (nI x) i + to A' q v i).toInt ∧ (tv A' q v (nI x) i + to A' q v i).toInt ≤ 1000 := by
  obtain ⟨⟨m, hm, em⟩, w1, w2, -⟩ := hp.2 i hi
  rw [h.1 _ _ h1] at em
  rw [h.1 _ _ h2] at w1 w2
  have z0 : (0 : Int32).toInt = 0 := by decide
  have val : ∀ (F : Nat → Nat → Int32), F (q + 2) i = A (q + 2) i → ((tv F q v (nI x) i + to F q v i).toInt = (if pv F q v i = -1 then (if (A (q + 2) i).toInt < 0 then (A (q + 2) i).toInt else 0) else if pv F q v i = nI x then (A (q + 2) i).toInt else 0)) := by
    intro F eF
    unfold tv to
    rw [eF]
    by_cases c : pv F q v i = -1
    · have c2 : ¬ pv F q v i = nI x := fun r => m1_ne (x := x) (by omega) (r.symm.trans c)
      rw [if_pos c, if_pos c, if_neg c2]
      by_cases d : A (q + 2) i < 0
      · have d' := ltI.mp d
        rw [z0] at d'
        rw [if_pos d, if_pos d', addI (by rw [z0]; omega) (by rw [z0]; omega) (by omega) (by omega), z0]; omega
      · have d' : ¬ (A (q + 2) i).toInt < 0 := fun r => d (ltI.mpr (by rw [z0]; exact r))
        rw [if_neg d, if_neg d', addI (by rw [z0]; omega) (by rw [z0]; omega) (by rw [z0]; omega) (by rw [z0]; omega), z0]; omega
    · rw [if_neg c, if_neg c]
      by_cases d : pv F q v i = nI x
      · rw [if_pos d, if_pos d, addI (by omega) (by omega) (by rw [z0]; omega) (by rw [z0]; omega), z0]; omega
      · rw [if_neg d, if_neg d, addI (by rw [z0]; omega) (by rw [z0]; omega) (by rw [z0]; omega) (by rw [z0]; omega), z0]; omega
  rw [val A rfl, val A' (h.1 _ _ h2)]
  rcases pv_ext h h1 hm em with e | e
  · rw [if_pos e]
    split <;> split <;> (try split) <;> omega
  · rw [e]
    split <;> (try split) <;> omega
theorem brk_mono (h : Ext A A' v) (h1 : q + 1 ≠ v) (h2 : q + 2 ≠ v) (hz : z ≠ v) (hp : PaW A' q v z n) (hb : ¬ brk I A q v z n = 0) : ¬ brk I A' q v z n = 0 := by
  have hn := hp.1
  have z0 : (0 : Int32).toInt = 0 := by decide
  have o1 : ¬ (1 : Int32) = 0 := by decide
  have ex : ∀ {P P' : Nat → Bool} {k i : Nat}, (∀ j, i ≤ j → j < i + k → P j = true → P' j = true) → ¬ ex1 P k i = 0 → ¬ ex1 P' k i = 0 := by
    intro P P' k i hq hn0
    have : ex1 P k i = 1 := (ex1_01 P k i).resolve_left hn0
    obtain ⟨j, j1, j2, j3⟩ := (ex1_i P k i).mp this
    have : ex1 P' k i = 1 := (ex1_i P' k i).mpr ⟨j, j1, j2, hq j j1 j2 j3⟩
    rw [this]
    exact o1
  have ls : (sm (tl A q v z) n 0 0).toInt ≤ (sm (tl A' q v z) n 0 0).toInt := sm_le0 hn (fun j hj => tl_le h h1 h2 hz hp hj)
  have gs : (sm (tg A' q v z) n 0 0).toInt ≤ (sm (tg A q v z) n 0 0).toInt := sm_le0 hn (fun j hj => tg_le h h1 h2 hz hp hj)
  have ws : (sm (tw A' q v) n 0 0).toInt ≤ (sm (tw A q v) n 0 0).toInt := sm_le0 hn (fun j hj => tw_le h h1 h2 hp hj)
  have pvE : ∀ i, i < n → pv A q v i ≠ -1 → pv A' q v i = pv A q v i := fun i hi hne => by
    obtain ⟨⟨m, hm, em⟩, -⟩ := hp.2 i hi
    rw [h.1 _ _ h1] at em
    exact (pv_ext h h1 hm em).resolve_left hne
  have near : ∀ d i, i < n → pna A q v n d i = true → pna A' q v n d i = true := by
    intro d i hi hq
    unfold pna at hq ⊢
    have hq := of_decide_eq_true hq
    refine decide_eq_true ?_
    rw [pvE i hi hq.1]
    refine ⟨hq.1, ?_⟩
    obtain ⟨j, j1, j2, j3⟩ := (ex1_i _ _ _).mp hq.2
    refine (ex1_i _ _ _).mpr ⟨j, j1, j2, ?_⟩
    unfold pnr at j3 ⊢
    have j3 := of_decide_eq_true j3
    refine decide_eq_true ?_
    rw [pvE i hi hq.1, pvE j (by omega) j3.1]
    exact j3
  unfold brk at hb ⊢
  by_cases k0 : I q 0 = 0
  · rw [if_pos k0] at hb ⊢
    refine ex (fun x _ hx hq => ?_) hb
    unfold pov at hq ⊢
    have hq := of_decide_eq_true hq
    refine decide_eq_true ?_
    have e : ∀ F : Nat → Nat → Int32, sm (tv F q v (nI x)) n 0 (sm (to F q v) n 0 0) = sm (fun j => tv F q v (nI x) j + to F q v j) n 0 0 := by
      intro F
      have a := sm_a (tv F q v (nI x)) n 0 (sm (to F q v) n 0 0) 0
      have b := sm_2 (to F q v) (tv F q v (nI x)) n 0 0 0
      rw [Int32.add_zero] at a
      rw [a, b, Int32.add_zero]
      exact sm_c n 0 0 (fun j _ _ => Int32.add_comm _ _)
    rw [e] at hq ⊢
    have := sm_le0 hn (fun j hj => to_le (x := x) h h1 h2 hp hj (by omega))
    rw [ltI] at hq ⊢
    omega
  · rw [if_neg k0] at hb ⊢
    by_cases k1 : I q 0 = 1
    · rw [if_pos k1] at hb ⊢
      by_cases c : I q 1 < sm (tl A q v z) n 0 0
      · rw [if_pos (ltI.mpr (by have := ltI.mp c; omega))]; exact o1
      · rw [if_neg c] at hb; exact absurd rfl hb
    · rw [if_neg k1] at hb ⊢
      by_cases k2 : I q 0 = 2
      · rw [if_pos k2] at hb ⊢
        by_cases c : sm (tg A q v z) n 0 0 < I q 1
        · rw [if_pos (ltI.mpr (by have := ltI.mp c; omega))]; exact o1
        · rw [if_neg c] at hb; exact absurd rfl hb
      · rw [if_neg k2] at hb ⊢
        by_cases k3 : I q 0 = 3
        · rw [if_pos k3] at hb ⊢
          by_cases c : I q 1 < sm (tl A q v z) n 0 0
          · rw [if_pos (ltI.mpr (by have := ltI.mp c; omega))]; exact o1
          · rw [if_neg c] at hb
            by_cases c2 : sm (tg A q v z) n 0 0 < I q 1
            · split
              · exact o1
              · rw [if_pos (ltI.mpr (by have := ltI.mp c2; omega))]; exact o1
            · rw [if_neg c2] at hb; exact absurd rfl hb
        · rw [if_neg k3] at hb ⊢
          by_cases k4 : I q 0 = 4
          · rw [if_pos k4] at hb ⊢
            exact ex (fun i _ hi hq => near _ i (by omega) hq) hb
          · rw [if_neg k4] at hb ⊢
            by_cases k5 : I q 0 = 5
            · rw [if_pos k5] at hb ⊢
              exact ex (fun i _ hi hq => near _ i (by omega) hq) hb
            · rw [if_neg k5] at hb ⊢
              by_cases k6 : I q 0 = 6
              · rw [if_pos k6] at hb ⊢
                refine ex (fun i _ hi hq => ?_) hb
                unfold pst at hq ⊢
                have hq := of_decide_eq_true hq
                refine decide_eq_true ?_
                rw [pvE i (by omega) hq.1, pvE (i + 1) (by omega) hq.2.1]
                exact hq
              · rw [if_neg k6] at hb ⊢
                by_cases k7 : I q 0 = 7
                · rw [if_pos k7] at hb ⊢
                  by_cases c : sm (tw A q v) n 0 0 < I q 1
                  · rw [if_pos (ltI.mpr (by have := ltI.mp c; omega))]; exact o1
                  · rw [if_neg c] at hb; exact absurd rfl hb
                · rw [if_neg k7] at hb; exact absurd rfl hb
end MO
