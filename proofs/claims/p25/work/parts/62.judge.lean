/-! THE TIE: a problem, and what is judged in it -/
def TIs (A : Nat → Nat → Int32) (Q n : Nat) : Prop := ∀ x, x < 6 → (A (Q + 3) x = 0 ∧ ∀ k, k < n → A (Q + 1) k ≠ nI x) ∨ (¬ A (Q + 3) x = 0 ∧ (∃ k, k < n ∧ A (Q + 1) k = nI x) ∧ ∀ k, k < n → A (Q + 1) k = nI x → A (Q + 2) k = A (Q + 4) x)
/-- rule r of problem p -/
def TRl (I A R : Nat → Nat → Int32) (p B r : Nat) : Prop := TRu I A R (8 * p + r) (B + 12 + 5 * r) ∧ TWe A (B + 12 + 5 * r) (nP I (B + 12 + 5 * r)) ∧ TSz A (B + 12 + 5 * r) (B + 1) (nP I (B + 12 + 5 * r)) ∧ TIs A (B + 12 + 5 * r) (nP I (B + 12 + 5 * r)) ∧ ∃ k, k ≤ 7 ∧ I (B + 12 + 5 * r) 0 = nI k
/-- problem p: nv variables, nr rules -/
def TPr (I A R : Nat → Nat → Int32) (p B nv nr : Nat) : Prop := p < 5 ∧ B = 58 + 52 * p ∧ PrW I A B nv nr ∧ R 319 p = nI nv ∧ R 320 p = nI nr ∧ TSs A R p (B + 1) ∧ (∀ x k, x < 6 → k < 6 → R 323 (36 * p + 6 * x + k) = A (B + 4 + x) k ∧ -100000 ≤ (A (B + 4 + x) k).toInt ∧ (A (B + 4 + x) k).toInt ≤ 100000) ∧ ∀ r, r < 8 → TRl I A R p B r
theorem TPr_of {I A R I2 A2 R2 : Nat → Nat → Int32} {p B nv nr : Nat} (h : TPr I A R p B nv nr) (hI : ∀ j k, 58 ≤ j → j < 318 → I2 j k = I j k) (hA : ∀ j k, 58 ≤ j → j < 318 → A2 j k = A j k) (hR : ∀ j k, 319 ≤ j → j ≤ 328 → R2 j k = R j k) : TPr I2 A2 R2 p B nv nr := by
  obtain ⟨hp, hB, hw, h1, h2, h3, h4, h5⟩ := h
  refine ⟨hp, hB, ?_, by rw [hR _ _ (by omega) (by omega)]; exact h1, by rw [hR _ _ (by omega) (by omega)]; exact h2, fun m hm => by rw [hR _ _ (by omega) (by omega), hA _ _ (by omega) (by omega)]; exact h3 m hm, fun x k hx hk => by rw [hR _ _ (by omega) (by omega), hA _ _ (by omega) (by omega)]; exact h4 x k hx hk, fun r hr => ?_⟩
  · refine ⟨hw.1, hw.2.1, by rw [hI _ _ (by omega) (by omega)]; exact hw.2.2.1, by rw [hI _ _ (by omega) (by omega)]; exact hw.2.2.2.1, fun x hx => by rw [hA _ _ (by omega) (by omega)]; exact hw.2.2.2.2.1 x hx, fun r hr => ?_⟩
    have e : nP I2 (B + 12 + 5 * r) = nP I (B + 12 + 5 * r) := by unfold nP; rw [hI _ _ (by omega) (by omega)]
    rw [e]
    have w := hw.2.2.2.2.2 r hr
    exact ⟨w.1, by rw [hI _ _ (by omega) (by omega)]; exact w.2.1, fun i hi => by rw [hA _ _ (by omega) (by omega)]; exact w.2.2 i hi⟩
  · have e : nP I2 (B + 12 + 5 * r) = nP I (B + 12 + 5 * r) := by unfold nP; rw [hI _ _ (by omega) (by omega)]
    obtain ⟨⟨a1, a2, a3, a4⟩, b, c, d, k, k7, ek⟩ := h5 r hr
    unfold TRl
    rw [e]
    refine ⟨⟨by rw [hR _ _ (by omega) (by omega), hI _ _ (by omega) (by omega)]; exact a1, by rw [hR _ _ (by omega) (by omega), hI _ _ (by omega) (by omega)]; exact a2, by rw [hR _ _ (by omega) (by omega), hI _ _ (by omega) (by omega)]; exact a3, fun k hk => by rw [hR _ _ (by omega) (by omega), hR _ _ (by omega) (by omega), hA _ _ (by omega) (by omega), hA _ _ (by omega) (by omega)]; exact a4 k hk⟩, fun k hk => by rw [hA _ _ (by omega) (by omega)]; exact b k hk, fun i hi => by rw [hA (B + 1) _ (by omega) (by omega), hA (B + 12 + 5 * r + 1) _ (by omega) (by omega)]; exact c i hi, fun x hx => ?_, k, k7, by rw [hI _ _ (by omega) (by omega)]; exact ek⟩
    rw [hA _ _ (by omega) (by omega), hA (B + 12 + 5 * r + 4) _ (by omega) (by omega)]
    rcases d x hx with ⟨d1, d2⟩ | ⟨d1, ⟨k0, d2, d3⟩, d4⟩
    · exact Or.inl ⟨d1, fun k hk => by rw [hA _ _ (by omega) (by omega)]; exact d2 k hk⟩
    · exact Or.inr ⟨d1, ⟨k0, d2, by rw [hA _ _ (by omega) (by omega)]; exact d3⟩, fun k hk => by rw [hA _ _ (by omega) (by omega), hA _ _ (by omega) (by omega)]; exact d4 k hk⟩
theorem TPr_up {I A R : Nat → Nat → Int32} {p B nv nr v x y : Nat} {w w' : Int32} (h : TPr I A R p B nv nr) (hv : v < 58) : TPr I (up2 A v x w) (up2 R 364 y w') p B nv nr :=
  TPr_of h (fun _ _ _ _ => rfl) (fun j k h1 _ => up2_j (by omega)) (fun j k _ h1 => up2_j (by omega))
theorem TRo_up {A R : Nat → Nat → Int32} {v x y : Nat} (h : TRo A R v) (hy : y < 6) : TRo (up2 A v x (nI y)) (up2 R 364 x (nI y)) v := fun i hi => by
  by_cases hx : i = x
  · subst hx; rw [up2_s, up2_s]; exact Or.inr ⟨y, hy, rfl, rfl⟩
  · rw [up2_k hx, up2_k hx]; exact h i hi
theorem tp_at {I A R : Nat → Nat → Int32} {p B nv nr : Nat} (h : TPr I A R p B nv nr) : PrAt B := ⟨p, h.1, h.2.1⟩
theorem tp_ru {I A R : Nat → Nat → Int32} {p B nv nr r : Nat} (h : TPr I A R p B nv nr) (hr : r < 8) : TRule I A R p (8 * p + r) (B + 12 + 5 * r) (B + 1) (nP I (B + 12 + 5 * r)) := by
  obtain ⟨hp, hB, hw, h1, h2, h3, h4, h5⟩ := h
  obtain ⟨a, b, c, d, e⟩ := h5 r hr
  exact ⟨by omega, a, hw.2.2.2.2.2 r hr, b, c, h3, e⟩
section JU
variable {I A R : Nat → Nat → Int32} {p B nv nr v : Nat}
theorem r_brk_L {k3 : Int32 → Option Int32} {k5 : Unit → Option Int32} (h : TPr I A R p B nv nr) (hv : TRo A R v) : ∀ (k i fu : Nat), i + k = nr → k < fu → f_X7_brokenBy_L2 (nI p) R k3 k5 fu (nI i) = if fst1 (pbr I A B v) k i = -9 then k5 () else k3 (fst1 (pbr I A B v) k i) := by
  have hp := h.1
  have hw := h.2.2.1
  have hnr := hw.2.1
  have e2 := h.2.2.2.2.1
  intro k
  induction k with
  | zero =>
    intro i fu hi hf
    obtain ⟨fu, rfl⟩ : ∃ z, fu = z + 1 := ⟨fu - 1, by omega⟩
    have hlt : ¬ i < nr := by omega
    simp (disch := omega) only [f_X7_brokenBy_L2, gd_in, t_cl, e2, t_lt, hlt, if_false, fst1, if_true]
  | succ k ih =>
    intro i fu hi hf
    obtain ⟨fu, rfl⟩ : ∃ z, fu = z + 1 := ⟨fu - 1, by omega⟩
    have hlt : i < nr := by omega
    simp (disch := omega) only [f_X7_brokenBy_L2, gd_in, t_cl, e2, t_lt, hlt, if_true, nI_1]
    rw [r_isBroken hp (tp_ru h (by omega)) hv, Option.bind_some, ih (i + 1) fu (by omega) (by omega), fst1_if (by omega)]
    by_cases hc : brk I A (B + 12 + 5 * i) v (B + 1) (nP I (B + 12 + 5 * i)) = 0
    · have e : ¬ pbr I A B v i = true := by unfold pbr; rw [decide_eq_true_iff]; exact fun q => q hc
      rw [if_pos hc, if_neg e]
    · have e : pbr I A B v i = true := decide_eq_true hc
      rw [if_neg hc, if_pos e]
theorem r_brokenBy (h : TPr I A R p B nv nr) (hv : TRo A R v) : f_X7_brokenBy R (nI p) = some (fbk I A B v nr) := by
  simp only [f_X7_brokenBy, bd]
  have hnr := h.2.2.1.2.1
  refine Eq.trans (r_brk_L h hv nr 0 FU (by omega) (t_fu _ (by omega))) ?_
  unfold fbk
  by_cases e : fst1 (pbr I A B v) nr 0 = -9
  · rw [if_pos e, e]
  · rw [if_neg e]
theorem r_isOut {x y : Nat} (h : TPr I A R p B nv nr) (hv : TRo A R v) (hv58 : v < 58) (hx : x < 6) (hy : y < 6) : f_X7_isOut R (nI p) (nI x) (nI y) = some (if fbk I (up2 A v x (nI y)) B v nr = -9 then 0 else 1, R) := by
  have e := r_brokenBy (TPr_up (x := x) (y := x) (w := nI y) (w' := nI y) h hv58) (TRo_up (x := x) hv hy)
  simp (disch := omega) only [f_X7_isOut, gd_in, t_cl, bd, e, Option.bind_some, up2_back]
  split <;> rfl
/-- where a variable is a part -/
def ppt (R : Nat → Nat → Int32) (q x i : Nat) : Bool := decide (R 327 (6 * q + i) = nI x)
theorem r_part_L {q n x : Nat} {k4 : Int32 → Option Int32} {k6 : Unit → Option Int32} (h : TPa R q n) : ∀ (k i fu : Nat), i + k = n → k < fu → f_X7_partAt_L11 (nI x) R k4 k6 fu (nI i) (nI q) = if fst1 (ppt R q x) k i = -9 then k6 () else k4 (fst1 (ppt R q x) k i) := by
  obtain ⟨hq, hn, en, hp6⟩ := h
  intro k
  induction k with
  | zero =>
    intro i fu hi hf
    obtain ⟨fu, rfl⟩ : ∃ z, fu = z + 1 := ⟨fu - 1, by omega⟩
    have hlt : ¬ i < n := by omega
    simp (disch := omega) only [f_X7_partAt_L11, gd_in, t_cl, en, t_lt, hlt, if_false, fst1, if_true]
  | succ k ih =>
    intro i fu hi hf
    obtain ⟨fu, rfl⟩ : ∃ z, fu = z + 1 := ⟨fu - 1, by omega⟩
    have hlt : i < n := by omega
    rw [fst1_if (by omega)]
    simp (disch := omega) only [f_X7_partAt_L11, gd_in, t_cl, en, t_lt, hlt, if_true, nI_1, m6, ih (i + 1) fu (by omega) (by omega)]
    by_cases hc : R 327 (6 * q + i) = nI x
    · have e : ppt R q x i = true := decide_eq_true hc
      rw [if_pos hc, if_pos e]
    · have e : ¬ ppt R q x i = true := by unfold ppt; rw [decide_eq_true_iff]; exact hc
      rw [if_neg hc, if_neg e]
theorem r_partAt {r n x : Nat} (hp : p < 5) (h : TPa R (8 * p + r) n) : f_X7_partAt R (nI p) (nI r) (nI x) = some (fst1 (ppt R (8 * p + r) x) n 0) := by
  have hn := h.2.1
  simp only [f_X7_partAt, bd, m8]
  refine Eq.trans (r_part_L h n 0 FU (by omega) (t_fu _ (by omega))) ?_
  by_cases e : fst1 (ppt R (8 * p + r) x) n 0 = -9
  · rw [if_pos e, e]
  · rw [if_neg e]
/-- a part or none, with its weight -/
theorem part_c {r x : Nat} (h : TPr I A R p B nv nr) (hr : r < 8) (hx : x < 6) : (A (B + 12 + 5 * r + 3) x = 0 ∧ fst1 (ppt R (8 * p + r) x) (nP I (B + 12 + 5 * r)) 0 = -9) ∨ (¬ A (B + 12 + 5 * r + 3) x = 0 ∧ ∃ k, k < 6 ∧ fst1 (ppt R (8 * p + r) x) (nP I (B + 12 + 5 * r)) 0 = nI k ∧ R 328 (6 * (8 * p + r) + k) = A (B + 12 + 5 * r + 4) x) := by
  have hT := tp_ru h hr
  have hw := hT.2.2.1
  have hd := (h.2.2.2.2.2.2.2 r hr).2.2.2.1
  have hn := hw.1
  rcases fst1_o (p := ppt R (8 * p + r) x) (nP I (B + 12 + 5 * r)) 0 with e | ⟨k, k1, k2, k3, k4⟩
  · rcases hd x hx with ⟨d1, d2⟩ | ⟨d1, ⟨k, d2, d3⟩, d4⟩
    · exact Or.inl ⟨d1, e⟩
    · have e2 := (fst1_n _ 0 (by omega)).mp e k (by omega) (by omega)
      unfold ppt at e2
      rw [(hT.2.1.2.2.2 k (by omega)).1, d3] at e2
      simp at e2
  · have k4 := of_decide_eq_true k4
    rw [(hT.2.1.2.2.2 k (by omega)).1] at k4
    rcases hd x hx with ⟨d1, d2⟩ | ⟨d1, _, d4⟩
    · exact absurd k4 (d2 k (by omega))
    · exact Or.inr ⟨d1, k, by omega, k3, by rw [(hT.2.1.2.2.2 k (by omega)).2]; exact d4 k (by omega) k4⟩
theorem r_costAt {x k : Nat} (h : TPr I A R p B nv nr) (hx : x < 6) (hk : k < 6) : f_X7_costAt R (nI p) (nI x) (nI k) = some (A (B + 4 + x) k) := by
  have hp := h.1
  simp (disch := omega) only [f_X7_costAt, m36, gd_in, t_cl, (h.2.2.2.2.2.2.1 x k hx hk).1]
theorem all1_if {β : Type} {q : Nat → Bool} {k i : Nat} {a b : β} : (if all1 q (k + 1) i = 1 then a else b) = if q i = true then (if all1 q k (i + 1) = 1 then a else b) else b := by
  rw [all1]
  by_cases h : q i = true
  · rw [if_pos h, if_pos h]
  · rw [if_neg h, if_neg h, if_neg z01]
theorem r_like_L {a e s : Nat} {k6 k7 : Unit → Option Int32} (h : TPr I A R p B nv nr) (ha : a < 6) (he : e < 6) (hs : s ≤ 6) (es : R 321 (6 * p + a) = nI s) : ∀ (k i fu : Nat), i + k = s → k < fu → f_X7_areLike_L30 (nI p) (nI a) (nI e) R k6 k7 fu (nI i) = if all1 (peq A B a e) k i = 1 then k7 () else k6 () := by
  have hp := h.1
  intro k
  induction k with
  | zero =>
    intro i fu hi hf
    obtain ⟨fu, rfl⟩ : ∃ z, fu = z + 1 := ⟨fu - 1, by omega⟩
    have hlt : ¬ i < s := by omega
    simp (disch := omega) only [f_X7_areLike_L30, m6, t_cl, es, t_lt, hlt, if_false, all1, if_true]
  | succ k ih =>
    intro i fu hi hf
    obtain ⟨fu, rfl⟩ : ∃ z, fu = z + 1 := ⟨fu - 1, by omega⟩
    have hlt : i < s := by omega
    simp (disch := omega) only [f_X7_areLike_L30, m6, t_cl, es, t_lt, hlt, if_true, nI_1, ih (i + 1) fu (by omega) (by omega), r_costAt h ha (show i < 6 by omega), r_costAt h he (show i < 6 by omega), Option.bind_some, all1_if]
    by_cases hc : A (B + 4 + a) i = A (B + 4 + e) i
    · rw [if_pos hc, if_pos (show peq A B a e i = true from decide_eq_true hc)]
    · rw [if_neg hc, if_neg (show ¬ peq A B a e i = true from by unfold peq; rw [decide_eq_true_iff]; exact hc)]
theorem r_like_L2 {a e : Nat} {k10 k11 : Unit → Option Int32} (h : TPr I A R p B nv nr) (ha : a < 6) (he : e < 6) : ∀ (k i fu : Nat), i + k = nr → k < fu → f_X7_areLike_L76 (nI p) (nI a) (nI e) R k10 k11 fu (nI i) = if all1 (pta I A B a e) k i = 1 then k11 () else k10 () := by
  have hp := h.1
  have hnr := h.2.2.1.2.1
  have e2 := h.2.2.2.2.1
  intro k
  induction k with
  | zero =>
    intro i fu hi hf
    obtain ⟨fu, rfl⟩ : ∃ z, fu = z + 1 := ⟨fu - 1, by omega⟩
    have hlt : ¬ i < nr := by omega
    simp (disch := omega) only [f_X7_areLike_L76, gd_in, t_cl, e2, t_lt, hlt, if_false, all1, if_true]
  | succ k ih =>
    intro i fu hi hf
    obtain ⟨fu, rfl⟩ : ∃ z, fu = z + 1 := ⟨fu - 1, by omega⟩
    have hlt : i < nr := by omega
    have hT := tp_ru h (show i < 8 by omega)
    have hP := TPa_of hT.1 hT.2.1 hT.2.2.1
    have hq := hT.1
    have ek := hT.2.1.1
    have q1 := r_partAt (x := a) hp hP
    have q2 := r_partAt (x := e) hp hP
    rw [all1_if]
    have ih' := ih (i + 1) fu (by omega) (by omega)
    rw [f_X7_areLike_L76, gd_in hp (by omega), t_cl (by omega), e2, if_pos (nI_lt hlt (by omega)), q1, q2, Option.bind_some, Option.bind_some, nI_1, ih']
    rcases part_c h (show i < 8 by omega) ha with ⟨a1, a2⟩ | ⟨a1, ka, a2, a3, a4⟩ <;> rcases part_c h (show i < 8 by omega) he with ⟨b1, b2⟩ | ⟨b1, kb, b2, b3, b4⟩
    · have et : pta I A B a e i = true := decide_eq_true (by unfold tal; rw [if_pos (Or.inl ⟨a1, b1⟩)]; decide)
      simp only [a2, b2, bd, if_true, et, z10, if_false]
    · have et : ¬ pta I A B a e i = true := by
        unfold pta; rw [decide_eq_true_iff]; unfold tal
        rw [if_neg (fun q => q.elim (fun q => b1 q.2) (fun q => q.2.1 a1))]; exact fun q => q rfl
      simp (disch := omega) only [a2, b3, bd, if_true, t_m9, if_false, et, Bool.false_eq_true]
    · have et : ¬ pta I A B a e i = true := by
        unfold pta; rw [decide_eq_true_iff]; unfold tal
        rw [if_neg (fun q => q.elim (fun q => a1 q.1) (fun q => q.2.2.1 b1))]; exact fun q => q rfl
      simp (disch := omega) only [a3, b2, bd, if_true, t_m9, if_false, et, Bool.false_eq_true]
    · simp (disch := omega) only [a3, b3, bd, if_true, t_m9, if_false, m8, gd_in, t_cl, ek, m6, a4, b4]
      by_cases h6 : I (B + 12 + 5 * i) 0 = 6
      · have et : ¬ pta I A B a e i = true := by
          unfold pta; rw [decide_eq_true_iff]; unfold tal
          rw [if_neg (fun q => q.elim (fun q => a1 q.1) (fun q => q.1 h6))]; exact fun q => q rfl
        rw [if_pos h6, if_neg et]
      · rw [if_neg h6]
        by_cases hc : A (B + 12 + 5 * i + 4) a = A (B + 12 + 5 * i + 4) e
        · have et : pta I A B a e i = true := decide_eq_true (by unfold tal; rw [if_pos (Or.inr ⟨h6, a1, b1, hc⟩)]; decide)
          rw [if_pos hc, if_pos et]
        · have et : ¬ pta I A B a e i = true := by
            unfold pta; rw [decide_eq_true_iff]; unfold tal
            rw [if_neg (fun q => q.elim (fun q => a1 q.1) (fun q => hc q.2.2.2))]; exact fun q => q rfl
          rw [if_neg hc, if_neg et]
theorem r_areLike {a e : Nat} (h : TPr I A R p B nv nr) (ha : a < nv) (he : e < 6) : f_X7_areLike R (nI p) (nI a) (nI e) = some (twn I A B nr (szo A B a) a e) := by
  have hp := h.1
  have hnv := h.2.2.1.1
  have hnr := h.2.2.1.2.1
  obtain ⟨s1, s2, s3⟩ := pr_sz h.2.2.1 ha
  have ea := h.2.2.2.2.2.1 a (by omega)
  have ee := h.2.2.2.2.2.1 e he
  unfold twn
  simp (disch := omega) only [f_X7_areLike, m6, gd_in, t_cl, bd, ea, ee]
  by_cases hc : A (B + 1) a = A (B + 1) e
  · rw [if_pos hc]
    refine Eq.trans (r_like_L h (by omega) he s3 (ea.trans s1) (szo A B a) 0 FU (by omega) (t_fu _ (by omega))) ?_
    by_cases hd : all1 (peq A B a e) (szo A B a) 0 = 1
    · rw [if_pos hd, if_pos ⟨hc, hd⟩]
      refine Eq.trans (r_like_L2 h (by omega) he nr 0 FU (by omega) (t_fu _ (by omega))) ?_
      rcases all1_01 (pta I A B a e) nr 0 with e | e <;> rw [e]
      · rw [if_neg z01]
      · rw [if_pos rfl]
    · rw [if_neg hd, if_neg (fun q => hd q.2)]
  · rw [if_neg hc, if_neg (fun q => hc q.1)]
end JU
