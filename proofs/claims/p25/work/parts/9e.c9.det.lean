/-! p25: two runs of one problem take the same rows -/
section DE
variable {I A J1 R1 J2 R2 : Nat → Nat → Int32} {B v p nv nr nn1 dd1 tk1 tn1 z1 nn2 dd2 tk2 tn2 z2 : Nat} {lim r1 r2 : Int32}
/-- the same row -/
def SR (R1 R2 : Nat → Nat → Int32) (m1 m2 : Nat) : Prop := dn R1 m1 = dn R2 m2 ∧ ∀ i, i < dn R1 m1 → wn R1 m1 i = wn R2 m2 i
theorem SR_sy {m1 m2 : Nat} (h : SR R1 R2 m1 m2) : SR R2 R1 m2 m1 := ⟨h.1.symm, fun i hi => (h.2 i (by rw [h.1]; exact hi)).symm⟩
theorem SR_b {m1 m2 : Nat} (h : SR R1 R2 m1 m2) (a : NdS I A R1 B v nv nr m1) (b : NdS I A R2 B v nv nr m2) : R1 341 m1 = R2 341 m2 ∧ R1 340 m1 = R2 340 m2 := by
  obtain ⟨h1, h2⟩ := h
  refine ⟨?_, ?_⟩
  · rw [a.2.2.2.2.2.2, b.2.2.2.2.2.2, lkw_c h2, h1]
  · rw [a.2.2.2.2.1, b.2.2.2.2.1, e7_c h2, h1]
/-- what run 1 reaches, run 2 reaches -/
theorem trans_r (a : MV I A J1 R1 p B v nv nr nn1 dd1 tk1 tn1 z1) (b : MV I A J2 R2 p B v nv nr nn2 dd2 tk2 tn2 z2) (hn : 0 < nn2) {k : Nat} (k1 : k ≤ tk1) (k2 : k ≤ tk2) (hs : ∀ j m1 m2, j < k → m1 < nn1 → m2 < nn2 → R1 346 j = nI m1 → R2 346 j = nI m2 → SR R1 R2 m1 m2) {x1 : Nat} (hx : x1 < nn1) (hr : Rch R1 k x1) (hni : ∀ j, j < k → R1 346 j ≠ nI x1) : ∃ x2, x2 < nn2 ∧ SR R1 R2 x1 x2 ∧ Rch R2 k x2 ∧ ∀ j, j < k → R2 346 j ≠ nI x2 := by
  obtain ⟨aP, av, az1, az5, aj1, aj2, aj3, ann, at2, a2, a3, a4, a5, a6, a7, a8⟩ := a
  obtain ⟨bP, bv, bz1, bz5, bj1, bj2, bj3, bnn, bt2, b2, b3, b4, b5, b6, b7, b8⟩ := b
  have fin : ∀ x2, x2 < nn2 → SR R1 R2 x1 x2 → Rch R2 k x2 → ∃ x2, x2 < nn2 ∧ SR R1 R2 x1 x2 ∧ Rch R2 k x2 ∧ ∀ j, j < k → R2 346 j ≠ nI x2 := fun x2 q1 q2 q3 => by
    refine ⟨x2, q1, q2, q3, fun j hj e => ?_⟩
    obtain ⟨m1, c1, c2, _⟩ := a8.1 j (by omega)
    have sr := hs j m1 x2 hj c1 q1 c2 e
    have : x1 = m1 := nd_u aP a2 a4 (dn R1 m1) x1 m1 hx c1 (by rw [q2.1, sr.1]) rfl (fun i hi => by rw [q2.2 i (by rw [q2.1, ← sr.1]; exact hi), sr.2 i hi])
    exact hni j hj (by rw [this]; exact c2)
  rcases hr with r | ⟨a1, j, r1, r2, r3⟩
  · subst r
    refine fin 0 hn ?_ (Or.inl rfl)
    have d1 : dn R1 0 = 0 := by
      rcases (a2 0 hx).2 with ⟨_, e, _⟩ | ⟨q, ⟨q1, _⟩, _⟩
      · exact e
      · omega
    have d2 : dn R2 0 = 0 := by
      rcases (b2 0 hn).2 with ⟨_, e, _⟩ | ⟨q, ⟨q1, _⟩, _⟩
      · exact e
      · omega
    exact ⟨by rw [d1, d2], fun i hi => absurd hi (by omega)⟩
  · rcases (a2 x1 hx).2 with ⟨_, _, e⟩ | ⟨a1', ⟨c1, c2⟩, c3, c4, c5⟩
    · rw [r1] at e
      obtain ⟨m1, e1, e2, _⟩ := a8.1 j (by omega)
      obtain ⟨q, q1, q2⟩ : ∃ q, q < 2000 ∧ nI a1 = nI q := ⟨m1, by omega, r3.symm.trans e2⟩
      rw [q2] at e
      exact absurd e (t_m9 (by omega))
    · have ea : nI a1 = nI a1' := r1.symm.trans c2
      rw [ea] at r3
      obtain ⟨m2, e1, e2, e3, _⟩ := b8.1 j (by omega)
      have sr := hs j a1' m2 r2 (by omega) e1 r3 e2
      have nd1 := (a2 x1 hx).1
      have m2d := (b3 m2 e1).2.2.1 e3
      have hd : dn R2 m2 < nv := by have := nd1.1; have := sr.1; omega
      have hw : ∀ i, i < dn R1 a1' + 1 → wn R1 x1 i = wx (wn R2 m2) (dn R2 m2) (wn R1 x1 (dn R1 a1')) i := fun i hi => by
        unfold wx
        by_cases q : i = dn R2 m2
        · rw [if_pos q, q, ← sr.1]
        · rw [if_neg q, c4 i (by have := sr.1; omega), sr.2 i (by have := sr.1; omega)]
      have hlk : (lkw I A B v nv nr (wx (wn R2 m2) (dn R2 m2) (wn R1 x1 (dn R1 a1'))) (dn R2 m2 + 1)).1 = 0 := by
        rw [← sr.1]
        have := nd1.2.2.2.2.2.1
        rw [c3, lkw_c hw] at this
        rw [sr.1] at this ⊢
        exact this
      obtain ⟨x2, x2n, x2p, x2w⟩ := b4.1 m2 e1 m2d hd (wn R1 x1 (dn R1 a1')) (by have := (nd1.2.2.1 (dn R1 a1') (by omega)).2; rw [← sr.1]; exact this) hlk
      refine fin x2 x2n ?_ (Or.inr ⟨m2, j, x2p, r2, e2⟩)
      rcases (b2 x2 x2n).2 with ⟨_, _, f⟩ | ⟨q, ⟨f1, f2⟩, f3, f4, f5⟩
      · rw [x2p] at f; exact absurd f (t_m9 (by omega))
      · obtain rfl : m2 = q := (t_eq (by omega) (by omega)).mp (x2p.symm.trans f2)
        refine ⟨by rw [c3, f3, sr.1], fun i hi => ?_⟩
        rw [c3] at hi
        by_cases g : i = dn R1 a1'
        · rw [g]
          rw [sr.1] at x2w ⊢
          exact x2w.symm
        · rw [c4 i (by omega), f4 i (by have := sr.1; omega), sr.2 i (by omega)]
/-- the least of what is reached is the same row -/
theorem step_eq (a : MV I A J1 R1 p B v nv nr nn1 dd1 tk1 tn1 z1) (b : MV I A J2 R2 p B v nv nr nn2 dd2 tk2 tn2 z2) (hn1 : 0 < nn1) (hn2 : 0 < nn2) {k : Nat} (k1 : k ≤ tk1) (k2 : k ≤ tk2) (hs : ∀ j m1 m2, j < k → m1 < nn1 → m2 < nn2 → R1 346 j = nI m1 → R2 346 j = nI m2 → SR R1 R2 m1 m2) {m1 m2 : Nat} (h1 : m1 < nn1) (h1r : Rch R1 k m1) (h1n : ∀ j, j < k → R1 346 j ≠ nI m1) (h1m : ∀ x, x < nn1 → Rch R1 k x → (∀ j, j < k → R1 346 j ≠ nI x) → x = m1 ∨ Lt R1 m1 x) (h2 : m2 < nn2) (h2r : Rch R2 k m2) (h2n : ∀ j, j < k → R2 346 j ≠ nI m2) (h2m : ∀ x, x < nn2 → Rch R2 k x → (∀ j, j < k → R2 346 j ≠ nI x) → x = m2 ∨ Lt R2 m2 x) : SR R1 R2 m1 m2 := by
  obtain ⟨x2, p1, p2, p3, p4⟩ := trans_r a b hn2 k1 k2 hs h1 h1r h1n
  obtain ⟨x1, q1, q2, q3, q4⟩ := trans_r b a hn1 k2 k1 (fun j u2 u1 hj c2 c1 e2 e1 => SR_sy (hs j u1 u2 hj c1 c2 e1 e2)) h2 h2r h2n
  have nd1 := fun n hn => (a.2.2.2.2.2.2.2.2.2.1 n hn).1
  have nd2 := fun n hn => (b.2.2.2.2.2.2.2.2.2.1 n hn).1
  rcases h2m x2 p1 p3 p4 with rfl | l2
  · exact p2
  · rcases h1m x1 q1 q3 q4 with rfl | l1
    · exact SR_sy q2
    · exfalso
      obtain ⟨e1, e2⟩ := SR_b p2 (nd1 m1 h1) (nd2 x2 p1)
      obtain ⟨f1, f2⟩ := SR_b q2 (nd2 m2 h2) (nd1 x1 q1)
      unfold Lt at l1 l2
      rw [← e1, ← e2] at l2
      rw [← f1, ← f2] at l1
      omega
theorem walk_eq (a : MV I A J1 R1 p B v nv nr nn1 dd1 tk1 tn1 z1) (b : MV I A J2 R2 p B v nv nr nn2 dd2 tk2 tn2 z2) (hn1 : 0 < nn1) (hn2 : 0 < nn2) : ∀ (k : Nat), k ≤ tk1 → k ≤ tk2 → ∀ j m1 m2, j < k → m1 < nn1 → m2 < nn2 → R1 346 j = nI m1 → R2 346 j = nI m2 → SR R1 R2 m1 m2 := by
  intro k
  induction k with
  | zero => intro _ _ j _ _ hj; exact absurd hj (by omega)
  | succ k ih =>
    intro k1 k2 j m1 m2 hj h1 h2 e1 e2
    have hs := ih (by omega) (by omega)
    by_cases q : j = k
    · subst q
      have a8 := a.2.2.2.2.2.2.2.2.2.2.2.2.2.2.2
      have b8 := b.2.2.2.2.2.2.2.2.2.2.2.2.2.2.2
      have ann := a.2.2.2.2.2.2.2.1
      have bnn := b.2.2.2.2.2.2.2.1
      obtain ⟨m1', c1, c2, c3, c4, c5⟩ := a8.1 j (by omega)
      obtain ⟨m2', d1, d2, d3, d4, d5⟩ := b8.1 j (by omega)
      obtain rfl : m1 = m1' := (t_eq (by omega) (by omega)).mp (e1.symm.trans c2)
      obtain rfl : m2 = m2' := (t_eq (by omega) (by omega)).mp (e2.symm.trans d2)
      exact step_eq a b hn1 hn2 (by omega) (by omega) hs h1 c4 (fun i hi e => by
        have := a8.2.2 i j (by omega) (by omega) (e.trans c2.symm); omega) c5 h2 d4 (fun i hi e => by
        have := b8.2.2 i j (by omega) (by omega) (e.trans d2.symm); omega) d5
    · exact hs j m1 m2 (by omega) h1 h2 e1 e2
/-- what is next: reached, and the least -/
theorem nx_r (a : MV I A J1 R1 p B v nv nr nn1 dd1 tk1 tn1 z1) {m : Nat} (hx : nxw R1 nn1 = some m) : m < nn1 ∧ Rch R1 tk1 m ∧ (∀ j, j < tk1 → R1 346 j ≠ nI m) ∧ ∀ x, x < nn1 → Rch R1 tk1 x → (∀ j, j < tk1 → R1 346 j ≠ nI x) → x = m ∨ Lt R1 m x := by
  obtain ⟨aP, av, az1, az5, aj1, aj2, aj3, ann, at2, a2, a3, a4, a5, a6, a7, a8⟩ := a
  obtain ⟨m1, m2, m3, m4⟩ := nx_l a2 aP av a3 a4 hx (by omega)
  refine ⟨m1, ?_, fun j hj e => ?_, fun x hx1 hr hn => ?_⟩
  · rcases m3 with q | ⟨w, w1, w2, w3⟩
    · rcases (a2 m m1).2 with ⟨r, _⟩ | ⟨w, ⟨b1, b2⟩, _⟩
      · exact Or.inl r
      · rw [b2] at q; exact absurd q (t_m9 (by omega))
    · obtain ⟨j, j1, j2⟩ := a8.2.1 w w1 w3
      exact Or.inr ⟨w, j, w2, j1, j2⟩
  · obtain ⟨y, y1, y2, y3, _⟩ := a8.1 j hj
    obtain rfl : m = y := (t_eq (by omega) (by omega)).mp (e.symm.trans y2)
    rw [m2] at y3; exact absurd y3 (by decide)
  · rcases (a3 x hx1).2.1 with q | q
    · exact m4 x hx1 q
    · obtain ⟨j, j1, j2⟩ := a8.2.1 x hx1 q
      exact absurd j2 (hn j j1)
/-- nothing next: nothing reached -/
theorem nx_0 (a : MV I A J1 R1 p B v nv nr nn1 dd1 tk1 tn1 z1) (hx : nxw R1 nn1 = none) {x : Nat} (h1 : x < nn1) (hr : Rch R1 tk1 x) (hn : ∀ j, j < tk1 → R1 346 j ≠ nI x) : False := by
  obtain ⟨aP, av, az1, az5, aj1, aj2, aj3, ann, at2, a2, a3, a4, a5, a6, a7, a8⟩ := a
  have hf := (amin_n _ _ hx).2 x (List.mem_range'_1.mpr ⟨by omega, by omega⟩)
  have nt : R1 345 x = 0 := by
    rcases (a3 x h1).2.1 with q | q
    · exact q
    · obtain ⟨j, j1, j2⟩ := a8.2.1 x h1 q
      exact absurd j2 (hn j j1)
  have : qwk R1 x = true := by
    unfold qwk
    refine decide_eq_true ⟨nt, ?_⟩
    rcases hr with r | ⟨w, j, r1, r2, r3⟩
    · subst r
      rcases (a2 0 h1).2 with ⟨_, _, e⟩ | ⟨w, ⟨b1, _⟩, _⟩
      · exact Or.inl e
      · omega
    · obtain ⟨y, y1, y2, y3, _⟩ := a8.1 j r2
      have ew : nI w = nI y := r3.symm.trans y2
      refine Or.inr ?_
      rw [r1, ew, t_cl (by omega), y3]
      decide
  rw [this] at hf
  exact absurd hf (by decide)
theorem nx_eq (a : MV I A J1 R1 p B v nv nr nn1 dd1 tk1 tn1 z1) (b : MV I A J2 R2 p B v nv nr nn2 dd2 tk1 tn2 z2) (hn1 : 0 < nn1) (hn2 : 0 < nn2) : bno R1 (nxw R1 nn1) = bno R2 (nxw R2 nn2) := by
  have hs := walk_eq a b hn1 hn2 tk1 (Nat.le_refl _) (Nat.le_refl _)
  have hs' : ∀ j u2 u1, j < tk1 → u2 < nn2 → u1 < nn1 → R2 346 j = nI u2 → R1 346 j = nI u1 → SR R2 R1 u2 u1 := fun j u2 u1 hj c2 c1 e2 e1 => SR_sy (hs j u1 u2 hj c1 c2 e1 e2)
  cases h1 : nxw R1 nn1 with
  | none =>
    cases h2 : nxw R2 nn2 with
    | none => rfl
    | some m2 =>
      obtain ⟨q1, q2, q3, q4⟩ := nx_r b h2
      obtain ⟨x1, p1, p2, p3, p4⟩ := trans_r b a hn1 (Nat.le_refl _) (Nat.le_refl _) hs' q1 q2 q3
      exact (nx_0 a h1 p1 p3 p4).elim
  | some m1 =>
    obtain ⟨q1, q2, q3, q4⟩ := nx_r a h1
    cases h2 : nxw R2 nn2 with
    | none =>
      obtain ⟨x2, p1, p2, p3, p4⟩ := trans_r a b hn2 (Nat.le_refl _) (Nat.le_refl _) hs q1 q2 q3
      exact (nx_0 b h2 p1 p3 p4).elim
    | some m2 =>
      obtain ⟨s1, s2, s3, s4⟩ := nx_r b h2
      have sr := step_eq a b hn1 hn2 (Nat.le_refl _) (Nat.le_refl _) hs q1 q2 q3 q4 s1 s2 s3 s4
      exact (SR_b sr (a.2.2.2.2.2.2.2.2.2.1 m1 q1).1 (b.2.2.2.2.2.2.2.2.2.1 m2 s1).1).1
/-- the walk ends alike: not before -/
theorem end_le (a : MV I A J1 R1 p B v nv nr nn1 dd1 tk1 tn1 z1) (b : MV I A J2 R2 p B v nv nr nn2 dd2 tk2 tn2 z2) (hn1 : 0 < nn1) (hn2 : 0 < nn2) (f1 : Fin9 R1 nv nn1 tk1 lim r1) (f2 : Fin9 R2 nv nn2 tk2 lim r2) (h1 : ¬ r1 = 0) (hlt : tk1 < tk2) : False := by
  have hs := walk_eq a b hn1 hn2 tk1 (Nat.le_refl _) (by omega)
  have b8 := b.2.2.2.2.2.2.2.2.2.2.2.2.2.2.2
  have bnn := b.2.2.2.2.2.2.2.1
  have g2 : M9 R2 nv tk2 lim ∨ ∃ k, tk2 = k + 1 ∧ M9 R2 nv k lim := by
    rcases f2 with ⟨_, _, q, _⟩ | ⟨_, _, q, _⟩ | ⟨k, m, q1, q2, _⟩
    · exact Or.inl q
    · exact Or.inl q
    · exact Or.inr ⟨k, q1, q2⟩
  rcases f1 with ⟨q, _⟩ | ⟨_, _, _, q⟩ | ⟨k, m, q1, q2, q3, q4, q5⟩
  · exact h1 q
  · obtain ⟨m2, c1, c2, c3, c4, c5⟩ := b8.1 tk1 hlt
    obtain ⟨x1, p1, p2, p3, p4⟩ := trans_r b a hn1 (k := tk1) (by omega) (Nat.le_refl _) (fun j u2 u1 hj d2 d1 e2 e1 => SR_sy (hs j u1 u2 hj d1 d2 e1 e2)) c1 c4 (fun i hi e => by
      have := b8.2.2 i tk1 (by omega) hlt (e.trans c2.symm); omega)
    exact nx_0 a q p1 p3 p4
  · obtain ⟨m2, c1, c2, c3, _⟩ := b8.1 k (by omega)
    have sr := hs k m m2 (by omega) q4 c1 q3 c2
    have n9 : dn R2 m2 < nv ∧ ¬ k + 1 = 250 ∧ ¬ nI (k + 1) = lim := by
      rcases g2 with g | ⟨k', g1, g⟩
      · exact g k m2 (by omega) c2 (by omega)
      · exact g k m2 (by omega) c2 (by omega)
    rcases q5 with ⟨_, e⟩ | ⟨_, _, e⟩ | ⟨_, _, _, e⟩
    · have := sr.1; omega
    · omega
    · rw [q1] at e; exact n9.2.2 e
theorem end_eq (a : MV I A J1 R1 p B v nv nr nn1 dd1 tk1 tn1 z1) (b : MV I A J2 R2 p B v nv nr nn2 dd2 tk2 tn2 z2) (hn1 : 0 < nn1) (hn2 : 0 < nn2) (f1 : Fin9 R1 nv nn1 tk1 lim r1) (f2 : Fin9 R2 nv nn2 tk2 lim r2) (h1 : ¬ r1 = 0) (h2 : ¬ r2 = 0) : tk1 = tk2 ∧ r1 = r2 ∧ bno R1 (nxw R1 nn1) = bno R2 (nxw R2 nn2) ∧ ∀ m1 m2, 0 < tk1 → m1 < nn1 → m2 < nn2 → R1 346 (tk1 - 1) = nI m1 → R2 346 (tk2 - 1) = nI m2 → R1 341 m1 = R2 341 m2 ∧ ∀ i, i < 6 → R1 339 (6 * m1 + i) = R2 339 (6 * m2 + i) := by
  have ht : tk1 = tk2 := by
    rcases Nat.lt_trichotomy tk1 tk2 with q | q | q
    · exact (end_le a b hn1 hn2 f1 f2 h1 q).elim
    · exact q
    · exact (end_le b a hn2 hn1 f2 f1 h2 q).elim
  subst ht
  have hs := walk_eq a b hn1 hn2 tk1 (Nat.le_refl _) (Nat.le_refl _)
  have ann := a.2.2.2.2.2.2.2.1
  have bnn := b.2.2.2.2.2.2.2.1
  refine ⟨rfl, ?_, nx_eq a b hn1 hn2, fun m1 m2 ht c1 c2 e1 e2 => ?_⟩
  · have cross : ∀ {Ra Rb : Nat → Nat → Int32} {na nb : Nat} {ra rb : Int32}, na < 2000 → nb < 2000 → (∀ j m1 m2, j < tk1 → m1 < na → m2 < nb → Ra 346 j = nI m1 → Rb 346 j = nI m2 → SR Ra Rb m1 m2) → (∀ k, k < tk1 → ∃ m, m < na ∧ Ra 346 k = nI m) → (ra = 2 ∧ M9 Ra nv tk1 lim) → (∃ k m, tk1 = k + 1 ∧ M9 Rb nv k lim ∧ Rb 346 k = nI m ∧ m < nb ∧ ((rb = 1 ∧ dn Rb m = nv) ∨ (rb = 4 ∧ dn Rb m < nv ∧ tk1 = 250) ∨ (rb = 3 ∧ dn Rb m < nv ∧ ¬ tk1 = 250 ∧ nI tk1 = lim))) → False := by
      intro Ra Rb na nb ra rb hna hnb hss hm h9 ⟨k, m, q1, q2, q3, q4, q5⟩
      obtain ⟨x, x1, x2⟩ := hm k (by omega)
      have sr := hss k x m (by omega) x1 q4 x2 q3
      have n9 := h9.2 k x (by omega) x2 (by omega)
      rcases q5 with ⟨_, e⟩ | ⟨_, _, e⟩ | ⟨_, _, _, e⟩
      · have := sr.1; omega
      · omega
      · rw [q1] at e; exact n9.2.2 e
    have am := fun k hk => (a.2.2.2.2.2.2.2.2.2.2.2.2.2.2.2).1 k hk
    have bm := fun k hk => (b.2.2.2.2.2.2.2.2.2.2.2.2.2.2.2).1 k hk
    rcases f1 with ⟨q, _⟩ | ⟨q, _, q9, _⟩ | ⟨k, m, q1, q2, q3, q4, q5⟩
    · exact absurd q h1
    · rcases f2 with ⟨u, _⟩ | ⟨u, _⟩ | w
      · exact absurd u h2
      · rw [q, u]
      · exact (cross (by omega) (by omega) hs (fun k hk => by obtain ⟨m, m1, m2, _⟩ := am k hk; exact ⟨m, m1, m2⟩) ⟨q, q9⟩ w).elim
    · rcases f2 with ⟨u, _⟩ | ⟨u, _, u9, _⟩ | ⟨k', m', u1, u2, u3, u4, u5⟩
      · exact absurd u h2
      · exact (cross (by omega) (by omega) (fun j m2 m1 hj c2 c1 e2 e1 => SR_sy (hs j m1 m2 hj c1 c2 e1 e2)) (fun k hk => by obtain ⟨m, m1, m2, _⟩ := bm k hk; exact ⟨m, m1, m2⟩) ⟨u, u9⟩ ⟨k, m, q1, q2, q3, q4, q5⟩).elim
      · obtain rfl : k = k' := by omega
        have sr := hs k m m' (by omega) q4 u4 q3 u3
        have sd := sr.1
        rcases q5 with ⟨e, f⟩ | ⟨e, f, g⟩ | ⟨e, f, g, _⟩ <;> rcases u5 with ⟨e', f'⟩ | ⟨e', f', g'⟩ | ⟨e', f', g', _⟩ <;> first | (rw [e, e']; done) | (exfalso; omega)
  · have sr := hs (tk1 - 1) m1 m2 (by omega) c1 c2 e1 e2
    have n1 := (a.2.2.2.2.2.2.2.2.2.1 m1 c1).1
    have n2 := (b.2.2.2.2.2.2.2.2.2.1 m2 c2).1
    refine ⟨(SR_b sr n1 n2).1, fun i hi => ?_⟩
    by_cases q : i < dn R1 m1
    · rw [(n1.2.2.1 i q).1, (n2.2.2.1 i (by rw [← sr.1]; exact q)).1, sr.2 i q]
    · rw [n1.2.2.2.1 i (by omega) hi, n2.2.2.2.1 i (by rw [← sr.1]; omega) hi]
end DE
