/-! THE TIE: everything -/
theorem TPr_of2 {I A R I2 A2 R2 : Nat → Nat → Int32} {p B nv nr : Nat} (h : TPr I A R p B nv nr) (hI : ∀ j k, 58 ≤ j → j < 318 → ¬ ((j - 58) % 52 = 0 ∧ (k = 2 ∨ k = 3)) → I2 j k = I j k) (hA : ∀ j k, 58 ≤ j → j < 318 → ¬ (j - 58) % 52 = 11 → A2 j k = A j k) (hR : ∀ j k, 319 ≤ j → j ≤ 328 → R2 j k = R j k) : TPr I2 A2 R2 p B nv nr := by
  obtain ⟨hp, hB, hw, h1, h2, h3, h4, h5⟩ := h
  refine ⟨hp, hB, ?_, by rw [hR _ _ (by omega) (by omega)]; exact h1, by rw [hR _ _ (by omega) (by omega)]; exact h2, fun m hm => by rw [hR _ _ (by omega) (by omega), hA _ _ (by omega) (by omega) (by omega)]; exact h3 m hm, fun x k hx hk => by rw [hR _ _ (by omega) (by omega), hA _ _ (by omega) (by omega) (by omega)]; exact h4 x k hx hk, fun r hr => ?_⟩
  · refine ⟨hw.1, hw.2.1, by rw [hI _ _ (by omega) (by omega) (by omega)]; exact hw.2.2.1, by rw [hI _ _ (by omega) (by omega) (by omega)]; exact hw.2.2.2.1, fun x hx => by rw [hA _ _ (by omega) (by omega) (by omega)]; exact hw.2.2.2.2.1 x hx, fun r hr => ?_⟩
    have e : nP I2 (B + 12 + 5 * r) = nP I (B + 12 + 5 * r) := by unfold nP; rw [hI _ _ (by omega) (by omega) (by omega)]
    rw [e]
    have w := hw.2.2.2.2.2 r hr
    exact ⟨w.1, by rw [hI _ _ (by omega) (by omega) (by omega)]; exact w.2.1, fun i hi => by rw [hA _ _ (by omega) (by omega) (by omega)]; exact w.2.2 i hi⟩
  · have e : nP I2 (B + 12 + 5 * r) = nP I (B + 12 + 5 * r) := by unfold nP; rw [hI _ _ (by omega) (by omega) (by omega)]
    obtain ⟨⟨a1, a2, a3, a4⟩, b, c, d, k, k7, ek⟩ := h5 r hr
    unfold TRl
    rw [e]
    refine ⟨⟨by rw [hR _ _ (by omega) (by omega), hI _ _ (by omega) (by omega) (by omega)]; exact a1, by rw [hR _ _ (by omega) (by omega), hI _ _ (by omega) (by omega) (by omega)]; exact a2, by rw [hR _ _ (by omega) (by omega), hI _ _ (by omega) (by omega) (by omega)]; exact a3, fun k hk => by rw [hR _ _ (by omega) (by omega), hR _ _ (by omega) (by omega), hA _ _ (by omega) (by omega) (by omega), hA _ _ (by omega) (by omega) (by omega)]; exact a4 k hk⟩, fun k hk => by rw [hA _ _ (by omega) (by omega) (by omega)]; exact b k hk, fun i hi => by rw [hA (B + 1) _ (by omega) (by omega) (by omega), hA (B + 12 + 5 * r + 1) _ (by omega) (by omega) (by omega)]; exact c i hi, fun x hx => ?_, k, k7, by rw [hI _ _ (by omega) (by omega) (by omega)]; exact ek⟩
    rw [hA _ _ (by omega) (by omega) (by omega), hA (B + 12 + 5 * r + 4) _ (by omega) (by omega) (by omega)]
    rcases d x hx with ⟨d1, d2⟩ | ⟨d1, ⟨k0, d2, d3⟩, d4⟩
    · exact Or.inl ⟨d1, fun k hk => by rw [hA _ _ (by omega) (by omega) (by omega)]; exact d2 k hk⟩
    · exact Or.inr ⟨d1, ⟨k0, d2, by rw [hA _ _ (by omega) (by omega) (by omega)]; exact d3⟩, fun k hk => by rw [hA _ _ (by omega) (by omega) (by omega), hA _ _ (by omega) (by omega) (by omega)]; exact d4 k hk⟩
/-- how many variables stand in a rule -/
def npc (A : Nat → Nat → Int32) (Q : Nat) : Nat := (if A (Q + 3) 0 = 0 then 0 else 1) + (if A (Q + 3) 1 = 0 then 0 else 1) + (if A (Q + 3) 2 = 0 then 0 else 1) + (if A (Q + 3) 3 = 0 then 0 else 1) + (if A (Q + 3) 4 = 0 then 0 else 1) + (if A (Q + 3) 5 = 0 then 0 else 1)
/-- the problems -/
def Q1 (I A J R : Nat → Nat → Int32) (np : Nat) : Prop := np ≤ 5 ∧ I 0 1 = nI np ∧ J 318 2 = nI np ∧ ∀ p, p < 5 → (∃ nv nr, TPr I A R p (58 + 52 * p) nv nr) ∧ (∀ v, v < 6 → R 322 (6 * p + v) = A (58 + 52 * p + 2) v) ∧ ∀ r, r < 8 → npc A (58 + 52 * p + 12 + 5 * r) = nP I (58 + 52 * p + 12 + 5 * r)
/-- the team -/
def Q2 (I A J R : Nat → Nat → Int32) (z sc : Nat) : Prop := TTe I A J R 2 z sc ∧ ∀ h, h < 5 → (A 3 h = R 330 h ∧ ∃ f, f ≤ 200 ∧ A 3 h = nI f) ∧ THt A R 2 h
/-- what is told of solvings -/
def Q3 (I A R : Nat → Nat → Int32) : Prop := ∀ p, p < 5 → (I (58 + 52 * p) 3 = 0 ∧ R 351 p = 0 ∧ R 352 p = 0) ∨ (I (58 + 52 * p) 3 = 1 ∧ R 351 p = 1 ∧ (∀ k, k < 6 → A (58 + 52 * p + 11) k = R 350 (6 * p + k)) ∧ ((R 352 p = 1 ∧ ∀ v, v < 6 → A (58 + 52 * p + 11) (6 + v) = R 353 (6 * p + v)) ∨ (R 352 p = 0 ∧ ∀ v, v < 6 → A (58 + 52 * p + 11) (6 + v) = -9)))
/-- the i-th node that the walk took in the solving that ended last -/
def Wn (A : Nat → Nat → Int32) (L : Nat → Nat → Int64) (R : Nat → Nat → Int32) (T B nv i : Nat) : Prop := ∃ c d, c < 1711 ∧ A (T + 9) i = nI c ∧ d ≤ 6 ∧ A (T + 2) c = nI d ∧ R 354 i = nI d ∧ (∀ v, v < d → vlo (L (T + 1) c) (nI v) = R 355 (6 * i + v)) ∧ (∀ v, d ≤ v → v < 6 → R 355 (6 * i + v) = -9) ∧ bdo (L (T + 1) c) = R 356 i ∧ A (T + 6) c = R 357 i ∧ ((A (T + 7) c = -1 ∧ R 359 i = 0 ∧ R 358 i = 0) ∨ ∃ f s, A (T + 7) c = nI f ∧ s ≤ 6 ∧ f + s ≤ 1711 ∧ d < nv ∧ A (B + 1) d = nI s ∧ R 359 i = nI s ∧ R 358 i = sm (fun y => if A (T + 3) (f + y) = 0 then 1 else 0) s 0 0 ∧ ∀ y, y < s → A (T + 3) (f + y) = R 360 (6 * i + y) ∧ A (T + 4) (f + y) = R 361 (6 * i + y))
def Q4 (I : Nat → Nat → Int32) (G : Nat → Nat → Nat) (A : Nat → Nat → Int32) (L : Nat → Nat → Int64) (J R : Nat → Nat → Int32) : Prop := ∃ T B wk nv, G 0 6 = T ∧ (T = 22 ∨ T = 34) ∧ G T 14 = B ∧ PrAt B ∧ I T 11 = nI wk ∧ J 318 48 = nI wk ∧ wk ≤ 250 ∧ I B 0 = nI nv ∧ nv ≤ 6 ∧ ∀ i, i < wk → Wn A L R T B nv i
/-- changes are counted -/
def Q5c (I J R : Nat → Nat → Int32) (n : Nat) : Prop := ∃ g, J 318 14 = nI g ∧ g ≤ n ∧ ∀ p, p < 5 → ∃ c c', I (58 + 52 * p) 2 = nI c ∧ R 329 p = nI c' ∧ c ≤ n ∧ c' ≤ g
/-- p is a problem -/
def Qn (J : Nat → Nat → Int32) (p : Nat) : Prop := ∃ np, np ≤ 5 ∧ J 318 2 = nI np ∧ p < np
theorem Qn_of {J J' : Nat → Nat → Int32} (h : J' 318 2 = J 318 2) : ∀ p, Qn J p → Qn J' p := fun p ⟨np, a, b, c⟩ => ⟨np, a, h.trans b, c⟩
/-- the node of the questions -/
def Q5 (I A J R : Nat → Nat → Int32) : Prop := (I 0 7 = -9 ∧ J 318 57 = -9) ∨ ∃ p ad nv c a c' a', (p < 5 ∧ Qn J p) ∧ I 0 7 = nI p ∧ J 318 57 = nI p ∧ I (58 + 52 * p) 0 = nI nv ∧ (ad ≤ nv ∧ nv ≤ 6) ∧ I 0 9 = nI ad ∧ J 318 59 = nI ad ∧ (∀ i, i < ad → ∃ m, m < szo A (58 + 52 * p) i ∧ A 18 i = nI m ∧ R 362 i = nI m) ∧ (∀ i, ad ≤ i → i < 6 → A 18 i = -1) ∧ I (58 + 52 * p) 2 = nI c ∧ I 0 8 = nI a ∧ R 329 p = nI c' ∧ J 318 58 = nI a' ∧ c < 1073741824 ∧ c' < 1073741824 ∧ ((c = a ∧ c' = a') ∨ (a < c ∧ a' < c'))
/-- what second() found -/
def Q6 (A J R : Nat → Nat → Int32) : Prop := (J 318 61 = -9 ∧ ∀ i, i < 6 → A 19 i = -9) ∨ ∃ m, m ≤ 6 ∧ J 318 61 = nI m ∧ (∀ i, i < m → A 19 i = R 363 i) ∧ ∀ i, m ≤ i → i < 6 → A 19 i = -9
/-- the last answer; likeTeam has no schedule -/
def Q7 (I J : Nat → Nat → Int32) : Prop := I 0 17 = J 318 1 ∧ I 8 1 = 0
/-- the solving -/
def Q8 (I : Nat → Nat → Int32) (G : Nat → Nat → Nat) (A : Nat → Nat → Int32) (L : Nat → Nat → Int64) (J R : Nat → Nat → Int32) (np z sc n : Nat) : Prop := I 0 3 = J 318 19 ∧ ∃ T, G 14 0 = T ∧ ((T = 22 ∧ G 0 6 = 34) ∨ (T = 34 ∧ G 0 6 = 22)) ∧ ((I 0 5 = -9 ∧ J 318 23 = -9) ∨ ∃ p nv nr kn nn dd tk tn hb fb, p < np ∧ I 0 5 = nI p ∧ J 318 23 = nI p ∧ TSv I G A L J R T 2 p (58 + 52 * p) nv nr kn nn dd tk tn hb z sc fb ∧ tk < 250 ∧ tn ≤ 500 * n ∧ hb ≤ 500 * n)
/-- booleans -/
def Q9 (R : Nat → Nat → Int32) : Prop := ∀ j x, (j = 344 ∨ j = 345 ∨ j = 372 ∨ j = 373) → R j x = 0 ∨ R j x = 1
/-- behind n calls -/
def Rel (n : Nat) (I : Nat → Nat → Int32) (G : Nat → Nat → Nat) (A : Nat → Nat → Int32) (L : Nat → Nat → Int64) (J R : Nat → Nat → Int32) : Prop := ∃ np z sc, Q1 I A J R np ∧ Q2 I A J R z sc ∧ Q3 I A R ∧ Q4 I G A L J R ∧ Q5c I J R n ∧ Q5 I A J R ∧ Q6 A J R ∧ Q7 I J ∧ Q8 I G A L J R np z sc n ∧ Q9 R
section FR
variable {I A : Nat → Nat → Int32} {G : Nat → Nat → Nat} {L : Nat → Nat → Int64} {J R I' A' : Nat → Nat → Int32} {G' : Nat → Nat → Nat} {L' : Nat → Nat → Int64} {J' R' : Nat → Nat → Int32} {np z sc n n' : Nat}
theorem Q1_of (h : Q1 I A J R np) (h1 : I' 0 1 = I 0 1) (h2 : J' 318 2 = J 318 2) (hI : ∀ j k, 58 ≤ j → j < 318 → ¬ ((j - 58) % 52 = 0 ∧ (k = 2 ∨ k = 3)) → I' j k = I j k) (hA : ∀ j k, 58 ≤ j → j < 318 → ¬ (j - 58) % 52 = 11 → A' j k = A j k) (hR : ∀ j k, 319 ≤ j → j ≤ 328 → R' j k = R j k) : Q1 I' A' J' R' np := by
  obtain ⟨a, b, c, d⟩ := h
  refine ⟨a, h1.trans b, h2.trans c, fun p hp => ?_⟩
  obtain ⟨⟨nv, nr, e⟩, f⟩ := d p hp
  exact ⟨⟨nv, nr, TPr_of2 e hI hA hR⟩, fun v hv => by rw [hR _ _ (by omega) (by omega), hA _ _ (by omega) (by omega) (by omega)]; exact f.1 v hv, fun r hr => by unfold npc nP; rw [hI _ _ (by omega) (by omega) (by omega)]; simp only [fun m => hA (58 + 52 * p + 12 + 5 * r + 3) m (by omega) (by omega) (by omega)]; exact f.2 r hr⟩
theorem Q2_of (h : Q2 I A J R z sc) (h1 : ∀ k, I' 2 k = I 2 k) (h2 : J' 318 15 = J 318 15) (h3 : J' 318 18 = J 318 18) (hA : ∀ j m, 3 ≤ j → j ≤ 7 → A' j m = A j m) (hR : ∀ j m, 330 ≤ j → j ≤ 334 → R' j m = R j m) : Q2 I' A' J' R' z sc := by
  obtain ⟨⟨t1, t2, t3, t4, t5, t6, t7, t8⟩, d⟩ := h
  refine ⟨⟨by rw [h1]; exact t1, by rw [h2]; exact t2, t3, t4, by rw [h1]; exact t5, by rw [h3]; exact t6, t7, fun i hi => by rw [hA _ _ (by omega) (by omega), hR _ _ (by omega) (by omega)]; exact t8 i hi⟩, fun x hx => ?_⟩
  have := d x hx
  unfold THt at this ⊢
  rw [hA 3 x (by omega) (by omega), hA (2 + 3) x (by omega) (by omega), hA (2 + 4) x (by omega) (by omega), hA (2 + 5) x (by omega) (by omega), hR 330 x (by omega) (by omega), hR 334 x (by omega) (by omega), hR 332 x (by omega) (by omega), hR 333 x (by omega) (by omega)]
  exact this
theorem Q3_of (h : Q3 I A R) (hI : ∀ p, p < 5 → I' (58 + 52 * p) 3 = I (58 + 52 * p) 3) (hA : ∀ p m, p < 5 → A' (58 + 52 * p + 11) m = A (58 + 52 * p + 11) m) (hR : ∀ j m, 350 ≤ j → j ≤ 353 → R' j m = R j m) : Q3 I' A' R' := fun p hp => by
  have := h p hp
  rw [hI p hp, hR 351 p (by omega) (by omega), hR 352 p (by omega) (by omega)]
  simp only [fun m => hA p m hp, fun m => hR 350 m (by omega) (by omega), fun m => hR 353 m (by omega) (by omega)]
  exact this
theorem Wn_of {T B nv nv' i : Nat} (h : Wn A L R T B nv i) (hv : nv ≤ nv') (hA : ∀ j m, T + 2 ≤ j → j ≤ T + 9 → A' j m = A j m) (hB : ∀ m, m < nv → A' (B + 1) m = A (B + 1) m) (hL : ∀ m, L' (T + 1) m = L (T + 1) m) (hR : ∀ j m, 354 ≤ j → j ≤ 361 → R' j m = R j m) : Wn A' L' R' T B nv' i := by
  obtain ⟨c, d, a1, a2, a3, a4, a5, a6, a7, a8, a9, a10⟩ := h
  refine ⟨c, d, a1, by rw [hA _ _ (by omega) (by omega)]; exact a2, a3, by rw [hA _ _ (by omega) (by omega)]; exact a4, by rw [hR _ _ (by omega) (by omega)]; exact a5, fun v hv => by rw [hL, hR _ _ (by omega) (by omega)]; exact a6 v hv, fun v h1 h2 => by rw [hR _ _ (by omega) (by omega)]; exact a7 v h1 h2, by rw [hL, hR _ _ (by omega) (by omega)]; exact a8, by rw [hA _ _ (by omega) (by omega), hR _ _ (by omega) (by omega)]; exact a9, ?_⟩
  rcases a10 with ⟨b1, b2, b3⟩ | ⟨f, s, b1, b2, b3, b4, b5, b6, b7, b8⟩
  · exact Or.inl ⟨by rw [hA _ _ (by omega) (by omega)]; exact b1, by rw [hR _ _ (by omega) (by omega)]; exact b2, by rw [hR _ _ (by omega) (by omega)]; exact b3⟩
  · refine Or.inr ⟨f, s, by rw [hA _ _ (by omega) (by omega)]; exact b1, b2, b3, by omega, by rw [hB _ b4]; exact b5, by rw [hR _ _ (by omega) (by omega)]; exact b6, ?_, fun y hy => by rw [hA _ _ (by omega) (by omega), hA _ _ (by omega) (by omega), hR _ _ (by omega) (by omega), hR _ _ (by omega) (by omega)]; exact b8 y hy⟩
    rw [hR _ _ (by omega) (by omega), b7]
    exact sm_c _ _ _ (fun i _ _ => by rw [hA _ _ (by omega) (by omega)])
theorem Q4_of (h : Q4 I G A L J R) (h0 : G' 0 6 = G 0 6) (hG : ∀ T, G 0 6 = T → G' T 14 = G T 14) (hI : ∀ T, G 0 6 = T → I' T 11 = I T 11) (hJ : J' 318 48 = J 318 48) (hA : ∀ T j m, G 0 6 = T → T + 2 ≤ j → j ≤ T + 9 → A' j m = A j m) (hL : ∀ T m, G 0 6 = T → L' (T + 1) m = L (T + 1) m) (hR : ∀ j m, 354 ≤ j → j ≤ 361 → R' j m = R j m) (hsz : ∀ B nv, PrAt B → I B 0 = nI nv → nv ≤ 6 → ∃ nv', nv ≤ nv' ∧ nv' ≤ 6 ∧ I' B 0 = nI nv' ∧ ∀ m, m < nv → A' (B + 1) m = A (B + 1) m) : Q4 I' G' A' L' J' R' := by
  obtain ⟨T, B, wk, nv, a1, a2, a3, a4, a5, a6, a7, a9, a10, a8⟩ := h
  obtain ⟨nv', v1, v2, v3, v4⟩ := hsz B nv a4 a9 a10
  exact ⟨T, B, wk, nv', by rw [h0]; exact a1, a2, by rw [hG T a1]; exact a3, a4, by rw [hI T a1]; exact a5, by rw [hJ]; exact a6, a7, v3, v2, fun i hi => Wn_of (a8 i hi) v1 (fun j m => hA T j m a1) v4 (fun m => hL T m a1) hR⟩
theorem Q5c_of (h : Q5c I J R n) (hn : n ≤ n') (h1 : J' 318 14 = J 318 14) (hI : ∀ p, p < 5 → I' (58 + 52 * p) 2 = I (58 + 52 * p) 2) (hR : ∀ m, R' 329 m = R 329 m) : Q5c I' J' R' n' := by
  obtain ⟨g, a, b, c⟩ := h
  refine ⟨g, h1.trans a, by omega, fun p hp => ?_⟩
  obtain ⟨x, y, c1, c2, c3, c4⟩ := c p hp
  exact ⟨x, y, by rw [hI p hp]; exact c1, by rw [hR]; exact c2, by omega, c4⟩
theorem Q5_of (h : Q5 I A J R) (h1 : ∀ k, 7 ≤ k → k ≤ 9 → I' 0 k = I 0 k) (h2 : ∀ k, 57 ≤ k → k ≤ 59 → J' 318 k = J 318 k) (hI : ∀ p k, p < 5 → k ≠ 1 → k ≠ 3 → I' (58 + 52 * p) k = I (58 + 52 * p) k) (hA : ∀ m, A' 18 m = A 18 m) (hB : ∀ p m, p < 5 → A' (58 + 52 * p + 1) m = A (58 + 52 * p + 1) m) (hR : ∀ m, R' 362 m = R 362 m) (hR2 : ∀ m, R' 329 m = R 329 m) (hQ : ∀ p, Qn J p → Qn J' p) : Q5 I' A' J' R' := by
  rcases h with ⟨a, b⟩ | ⟨p, ad, nv, c, a, c', a', ⟨q1, q1'⟩, q2, q3, q4, q5, q6, q7, q8, q9, q10, q11, q12, q13, q14, q15, q16⟩
  · exact Or.inl ⟨by rw [h1 7 (by omega) (by omega)]; exact a, by rw [h2 57 (by omega) (by omega)]; exact b⟩
  · refine Or.inr ⟨p, ad, nv, c, a, c', a', ⟨q1, hQ p q1'⟩, by rw [h1 7 (by omega) (by omega)]; exact q2, by rw [h2 57 (by omega) (by omega)]; exact q3, by rw [hI p 0 q1 (by omega) (by omega)]; exact q4, q5, by rw [h1 9 (by omega) (by omega)]; exact q6, by rw [h2 59 (by omega) (by omega)]; exact q7, fun i hi => ?_, fun i h1 h2 => by rw [hA]; exact q9 i h1 h2, by rw [hI p 2 q1 (by omega) (by omega)]; exact q10, by rw [h1 8 (by omega) (by omega)]; exact q11, by rw [hR2]; exact q12, by rw [h2 58 (by omega) (by omega)]; exact q13, q14, q15, q16⟩
    unfold szo
    rw [hB p _ q1, hA, hR]
    exact q8 i hi
theorem Q6_of (h : Q6 A J R) (h1 : J' 318 61 = J 318 61) (hA : ∀ m, A' 19 m = A 19 m) (hR : ∀ m, R' 363 m = R 363 m) : Q6 A' J' R' := by
  unfold Q6 at h ⊢
  rw [h1]
  simp only [hA, hR]
  exact h
theorem TSv_of {T p nv nr kn nn dd tk tn hb : Nat} {fb : Nat → Option (Nat × Nat)} (h : TSv I G A L J R T 2 p (58 + 52 * p) nv nr kn nn dd tk tn hb z sc fb) (hI : ∀ j k, (j = 2 ∨ j = 14 ∨ j = T ∨ (58 ≤ j ∧ j < 318 ∧ ¬ ((j - 58) % 52 = 0 ∧ (k = 2 ∨ k = 3)))) → I' j k = I j k) (hG : ∀ j k, j = 14 ∨ j = T → G' j k = G j k) (hA : ∀ j m, (j = 3 ∨ j = 4 ∨ j = 5 ∨ j = 6 ∨ j = 7 ∨ j = 15 ∨ j = 16 ∨ (T + 2 ≤ j ∧ j ≤ T + 9) ∨ (58 ≤ j ∧ j < 318 ∧ ¬ (j - 58) % 52 = 11)) → A' j m = A j m) (hL : ∀ m, L' (T + 1) m = L (T + 1) m) (hJ : ∀ k, (k = 15 ∨ k = 18 ∨ k = 24 ∨ k = 28 ∨ k = 29 ∨ k = 30 ∨ k = 31) → J' 318 k = J 318 k) (hR : ∀ j m, (319 ≤ j ∧ j ≤ 328 ∨ 331 ≤ j ∧ j ≤ 349) → R' j m = R j m) : TSv I' G' A' L' J' R' T 2 p (58 + 52 * p) nv nr kn nn dd tk tn hb z sc fb := by
  obtain ⟨⟨hT, hGB, hPr, hmt, hX, hF, hd1, hd2, ht1, ht2, hw⟩, hE, hGT, hGE, hkn, hhc, hH, hTe, hlim, htn1, htn2, hT46, ht250⟩ := h
  have hp := hPr.1
  have hfi : fi A' T kn = fi A T kn := by funext m; unfold fi; rw [os_c (A := A) (A' := A') (fun c _ => hA _ _ (by omega))]
  obtain ⟨t1, t2, t3, t4, t5, t6, t7, t8⟩ := hTe
  refine ⟨⟨hT, by rw [hG _ _ (Or.inr rfl)]; exact hGB, TPr_of2 hPr (fun j k h1 h2 h3 => hI j k (by omega)) (fun j k h1 h2 h3 => hA j k (by omega)) (fun j k h1 h2 => hR j k (by omega)), by rw [hI _ _ (by omega)]; exact hmt, TT_fr hX (hI _ _ (by omega)) (fun j m h1 h2 => hA j m (by omega)) (fun m => hA _ _ (by omega)) hL (hJ 29 (by omega)) (fun j m h1 h2 h3 => hR j m (by omega)), FC_c hF (fun m => hA _ _ (by omega)) (fun x _ => hR _ _ (by omega)) (fun x _ => hR _ _ (by omega)), by rw [hI _ _ (by omega)]; exact hd1, by rw [hJ 30 (by omega)]; exact hd2, by rw [hI _ _ (by omega)]; exact ht1, by rw [hJ 31 (by omega)]; exact ht2, fun i hi => ?_⟩, hE, by rw [hG _ _ (Or.inl rfl)]; exact hGT, by rw [hG _ _ (Or.inl rfl)]; exact hGE, hkn, ?_, fun x hx => ?_, ⟨by rw [hI _ _ (by omega)]; exact t1, by rw [hJ 15 (by omega)]; exact t2, t3, t4, by rw [hI _ _ (by omega)]; exact t5, by rw [hJ 18 (by omega)]; exact t6, t7, fun i hi => by rw [hA _ _ (by omega), hR _ _ (by omega)]; exact t8 i hi⟩, by rw [hI _ _ (by omega), hJ 24 (by omega)]; exact hlim, by rw [hI _ _ (by omega)]; exact htn1, by rw [hJ 28 (by omega)]; exact htn2, hT46, ht250⟩
  · obtain ⟨m, m1, m2, m3, m4⟩ := hw i hi
    exact ⟨m, m1, by rw [hR _ _ (by omega)]; exact m2, by rw [hR _ _ (by omega)]; exact m3, by rw [hfi, hA _ _ (by omega)]; exact m4⟩
  · have e : hc A' = hc A := by unfold hc; simp only [fun m => hA 15 m (by omega)]
    omega
  · have := hH x hx
    unfold THo THa THt at this ⊢
    rw [hfi, hA 15 x (by omega), hA 16 x (by omega), hA (2 + 1) x (by omega), hA (2 + 3) x (by omega), hA (2 + 4) x (by omega), hA (2 + 5) x (by omega), hR 337 x (by omega), hR 336 x (by omega), hR 335 x (by omega), hR 334 x (by omega), hR 333 x (by omega), hR 332 x (by omega)]
    simp only [fun m => hR 343 m (by omega), fun m => hR 344 m (by omega)]
    exact this
theorem Q8_of (h : Q8 I G A L J R np z sc n) (hn : n ≤ n') (h3 : I' 0 3 = I 0 3) (h5 : I' 0 5 = I 0 5) (j19 : J' 318 19 = J 318 19) (j23 : J' 318 23 = J 318 23) (g0 : G' 0 6 = G 0 6) (hI : ∀ j k, (j = 2 ∨ j = 14 ∨ (22 ≤ j ∧ j < 46) ∨ (58 ≤ j ∧ j < 318 ∧ ¬ ((j - 58) % 52 = 0 ∧ (k = 2 ∨ k = 3)))) → I' j k = I j k) (hG : ∀ j k, j = 14 ∨ (22 ≤ j ∧ j < 46) → G' j k = G j k) (hA : ∀ j m, (j = 3 ∨ j = 4 ∨ j = 5 ∨ j = 6 ∨ j = 7 ∨ j = 15 ∨ j = 16 ∨ (22 ≤ j ∧ j < 46) ∨ (58 ≤ j ∧ j < 318 ∧ ¬ (j - 58) % 52 = 11)) → A' j m = A j m) (hL : ∀ j m, 22 ≤ j → j < 46 → L' j m = L j m) (hJ : ∀ k, (k = 15 ∨ k = 18 ∨ k = 24 ∨ k = 28 ∨ k = 29 ∨ k = 30 ∨ k = 31) → J' 318 k = J 318 k) (hR : ∀ j m, (319 ≤ j ∧ j ≤ 328 ∨ 331 ≤ j ∧ j ≤ 349) → R' j m = R j m) : Q8 I' G' A' L' J' R' np z sc n' := by
  obtain ⟨a, T, b, c, d⟩ := h
  refine ⟨by rw [h3, j19]; exact a, T, by rw [hG _ _ (Or.inl rfl)]; exact b, by rw [g0]; exact c, ?_⟩
  rw [h5, j23]
  have hTr : 22 ≤ T ∧ T + 11 < 46 := by omega
  rcases d with d | ⟨p, nv, nr, kn, nn, dd, tk, tn, hb, fb, d1, d2, d3, d4, d5, d6, d7⟩
  · exact Or.inl d
  · exact Or.inr ⟨p, nv, nr, kn, nn, dd, tk, tn, hb, fb, d1, d2, d3, TSv_of d4 (fun j k h => hI j k (by omega)) (fun j k h => hG j k (by omega)) (fun j m h => hA j m (by omega)) (fun m => hL _ _ (by omega) (by omega)) hJ hR, d5, by omega, by omega⟩
/-- what doesn't touch what counts -/
theorem Rel_fr (h : Rel n I G A L J R) (hn : n ≤ n') (hI : ∀ j k, j = 0 ∨ j = 2 ∨ j = 8 ∨ j = 14 ∨ (22 ≤ j ∧ j < 46) ∨ (58 ≤ j ∧ j < 318) → I' j k = I j k) (hG : ∀ j k, j = 0 ∨ j = 14 ∨ (22 ≤ j ∧ j < 46) → G' j k = G j k) (hA : ∀ j m, (3 ≤ j ∧ j ≤ 7) ∨ j = 15 ∨ j = 16 ∨ j = 18 ∨ j = 19 ∨ (22 ≤ j ∧ j < 46) ∨ (58 ≤ j ∧ j < 318) → A' j m = A j m) (hL : ∀ j m, 22 ≤ j → j < 46 → L' j m = L j m) (hJ : ∀ k, k ≠ 0 → k ≠ 64 → k ≠ 65 → J' 318 k = J 318 k) (hR : ∀ j m, 319 ≤ j → j ≤ 363 → R' j m = R j m) (h9 : Q9 R') : Rel n' I' G' A' L' J' R' := by
  obtain ⟨np, z, sc, q1, q2, q3, q4, q5c, q5, q6, q7, q8, q9⟩ := h
  have hT : G 0 6 = 22 ∨ G 0 6 = 34 := by obtain ⟨T, _, _, _, a, b, _⟩ := q4; omega
  refine ⟨np, z, sc, Q1_of q1 (hI _ _ (by omega)) (hJ _ (by decide) (by decide) (by decide)) (fun j k h1 h2 _ => hI j k (by omega)) (fun j k h1 h2 _ => hA j k (by omega)) (fun j k h1 h2 => hR j k (by omega) (by omega)), Q2_of q2 (fun k => hI _ _ (by omega)) (hJ _ (by decide) (by decide) (by decide)) (hJ _ (by decide) (by decide) (by decide)) (fun j m h1 h2 => hA j m (by omega)) (fun j m h1 h2 => hR j m (by omega) (by omega)), Q3_of q3 (fun p hp => hI _ _ (by omega)) (fun p m hp => hA _ _ (by omega)) (fun j m h1 h2 => hR j m (by omega) (by omega)), Q4_of q4 (hG _ _ (by omega)) (fun T h => hG _ _ (by omega)) (fun T h => hI _ _ (by omega)) (hJ _ (by decide) (by decide) (by decide)) (fun T j m h1 h2 h3 => hA j m (by omega)) (fun T m h => hL _ _ (by omega) (by omega)) (fun j m h1 h2 => hR j m (by omega) (by omega)) ?_, Q5c_of q5c hn (hJ _ (by decide) (by decide) (by decide)) (fun p hp => hI _ _ (by omega)) (fun m => hR _ _ (by omega) (by omega)), Q5_of q5 (fun k _ _ => hI _ _ (by omega)) (fun k h1 h2 => hJ k (by omega) (by omega) (by omega)) (fun p k hp _ _ => hI _ _ (by omega)) (fun m => hA _ _ (by omega)) (fun p m hp => hA _ _ (by omega)) (fun m => hR _ _ (by omega) (by omega)) (fun m => hR _ _ (by omega) (by omega)) (Qn_of (hJ _ (by decide) (by decide) (by decide))), Q6_of q6 (hJ _ (by decide) (by decide) (by decide)) (fun m => hA _ _ (by omega)) (fun m => hR _ _ (by omega) (by omega)), ?_, Q8_of q8 hn (hI _ _ (by omega)) (hI _ _ (by omega)) (hJ _ (by decide) (by decide) (by decide)) (hJ _ (by decide) (by decide) (by decide)) (hG _ _ (by omega)) (fun j k h => hI j k (by omega)) (fun j k h => hG j k (by omega)) (fun j m h => hA j m (by omega)) hL (fun k h => hJ k (by omega) (by omega) (by omega)) (fun j m h => hR j m (by omega) (by omega)), h9⟩
  · intro B nv ⟨p, hp, d⟩ e1 e2
    exact ⟨nv, Nat.le_refl _, e2, by rw [hI _ _ (by omega)]; exact e1, fun m _ => hA _ _ (by omega)⟩
  · exact ⟨by rw [hI _ _ (by omega), hJ _ (by decide) (by decide) (by decide)]; exact q7.1, by rw [hI _ _ (by omega)]; exact q7.2⟩
theorem up0 {k : Nat} (hk : k ≠ 0) : up2 J 318 0 0 318 k = J 318 k := up2_k hk
/-- the reference's 'thrown' -/
theorem Rel_J0 (h : Rel n I G A L J R) : Rel (n + 1) I G A L (up2 J 318 0 0) R := Rel_fr h (by omega) (fun _ _ _ => rfl) (fun _ _ _ => rfl) (fun _ _ _ => rfl) (fun _ _ _ _ => rfl) (fun k hk _ _ => up0 hk) (fun _ _ _ _ => rfl) (by obtain ⟨_, _, _, _, _, _, _, _, _, _, _, _, h⟩ := h; exact h)
end FR
