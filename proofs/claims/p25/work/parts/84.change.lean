/-! THE TIE: calls that change a problem -/
/-- the reference's words of problem q -/
def RPw (q j m : Nat) : Prop := ((j = 319 ∨ j = 320 ∨ j = 329 ∨ j = 351 ∨ j = 352) ∧ m = q) ∨ ((j = 321 ∨ j = 322) ∧ 6 * q ≤ m ∧ m < 6 * q + 6) ∨ (j = 323 ∧ 36 * q ≤ m ∧ m < 36 * q + 36) ∨ ((j = 324 ∨ j = 325 ∨ j = 326) ∧ 8 * q ≤ m ∧ m < 8 * q + 8) ∨ ((j = 327 ∨ j = 328) ∧ 48 * q ≤ m ∧ m < 48 * q + 48)
theorem TPr_of3 {I A R I2 A2 R2 : Nat → Nat → Int32} {p nv nr : Nat} (h : TPr I A R p (58 + 52 * p) nv nr) (hI : ∀ j k, 58 + 52 * p ≤ j → j < 110 + 52 * p → I2 j k = I j k) (hA : ∀ j k, 58 + 52 * p ≤ j → j < 110 + 52 * p → A2 j k = A j k) (hR : ∀ j m, RPw p j m → R2 j m = R j m) : TPr I2 A2 R2 p (58 + 52 * p) nv nr := by
  obtain ⟨hp, hB, hw, h1, h2, h3, h4, h5⟩ := h
  refine ⟨hp, hB, ?_, by rw [hR _ _ (by unfold RPw; omega)]; exact h1, by rw [hR _ _ (by unfold RPw; omega)]; exact h2, fun m hm => by rw [hR _ _ (by unfold RPw; omega), hA _ _ (by omega) (by omega)]; exact h3 m hm, fun x k hx hk => by rw [hR _ _ (by unfold RPw; omega), hA _ _ (by omega) (by omega)]; exact h4 x k hx hk, fun r hr => ?_⟩
  · refine ⟨hw.1, hw.2.1, by rw [hI _ _ (by omega) (by omega)]; exact hw.2.2.1, by rw [hI _ _ (by omega) (by omega)]; exact hw.2.2.2.1, fun x hx => by rw [hA _ _ (by omega) (by omega)]; exact hw.2.2.2.2.1 x hx, fun r hr => ?_⟩
    have e : nP I2 (58 + 52 * p + 12 + 5 * r) = nP I (58 + 52 * p + 12 + 5 * r) := by unfold nP; rw [hI _ _ (by omega) (by omega)]
    rw [e]
    have w := hw.2.2.2.2.2 r hr
    exact ⟨w.1, by rw [hI _ _ (by omega) (by omega)]; exact w.2.1, fun i hi => by rw [hA _ _ (by omega) (by omega)]; exact w.2.2 i hi⟩
  · have e : nP I2 (58 + 52 * p + 12 + 5 * r) = nP I (58 + 52 * p + 12 + 5 * r) := by unfold nP; rw [hI _ _ (by omega) (by omega)]
    obtain ⟨⟨a1, a2, a3, a4⟩, b, c, d, k, k7, ek⟩ := h5 r hr
    unfold TRl
    rw [e]
    refine ⟨⟨by rw [hR _ _ (by unfold RPw; omega), hI _ _ (by omega) (by omega)]; exact a1, by rw [hR _ _ (by unfold RPw; omega), hI _ _ (by omega) (by omega)]; exact a2, by rw [hR _ _ (by unfold RPw; omega), hI _ _ (by omega) (by omega)]; exact a3, fun k hk => by rw [hR _ _ (by unfold RPw; omega), hR _ _ (by unfold RPw; omega), hA _ _ (by omega) (by omega), hA _ _ (by omega) (by omega)]; exact a4 k hk⟩, fun k hk => by rw [hA _ _ (by omega) (by omega)]; exact b k hk, fun i hi => by rw [hA (58 + 52 * p + 1) _ (by omega) (by omega), hA (58 + 52 * p + 12 + 5 * r + 1) _ (by omega) (by omega)]; exact c i hi, fun x hx => ?_, k, k7, by rw [hI _ _ (by omega) (by omega)]; exact ek⟩
    rw [hA _ _ (by omega) (by omega), hA (58 + 52 * p + 12 + 5 * r + 4) _ (by omega) (by omega)]
    rcases d x hx with ⟨d1, d2⟩ | ⟨d1, ⟨k0, d2, d3⟩, d4⟩
    · exact Or.inl ⟨d1, fun k hk => by rw [hA _ _ (by omega) (by omega)]; exact d2 k hk⟩
    · exact Or.inr ⟨d1, ⟨k0, d2, by rw [hA _ _ (by omega) (by omega)]; exact d3⟩, fun k hk => by rw [hA _ _ (by omega) (by omega), hA _ _ (by omega) (by omega)]; exact d4 k hk⟩
section CF
variable {I A : Nat → Nat → Int32} {G : Nat → Nat → Nat} {L : Nat → Nat → Int64} {J R I' A' J' R' : Nat → Nat → Int32} {n : Nat}
/-- one problem is changed -/
theorem Rel_P {p nv' nr' : Nat} (h : Rel n I G A L J R) (hn : n < 1073741000) (hp : p < 5) (hw : I 0 5 = -9)
    (hI : ∀ j k, ¬ (58 + 52 * p ≤ j ∧ j < 110 + 52 * p) → ¬ (j = 0 ∧ k = 17) → I' j k = I j k)
    (hI2 : I' (58 + 52 * p) 2 = I (58 + 52 * p) 2 + 1) (hI3 : I' (58 + 52 * p) 3 = 0)
    (hA : ∀ j m, ¬ (58 + 52 * p ≤ j ∧ j < 110 + 52 * p) → A' j m = A j m)
    (hJ : ∀ k, ¬ (k = 0 ∨ k = 1 ∨ k = 14) → J' 318 k = J 318 k) (hJ14 : J' 318 14 = J 318 14 + 1)
    (hR : ∀ j m, ¬ (319 ≤ j ∧ j ≤ 329 ∨ j = 351 ∨ j = 352) → R' j m = R j m)
    (hR329 : R' 329 p = J 318 14 + 1) (h351 : R' 351 p = 0) (h352 : R' 352 p = 0)
    (hRo : ∀ q j m, q < 5 → q ≠ p → RPw q j m → R' j m = R j m)
    (hs : I' 0 17 = J' 318 1)
    (hT : TPr I' A' R' p (58 + 52 * p) nv' nr') (hK : ∀ v, v < 6 → R' 322 (6 * p + v) = A' (58 + 52 * p + 2) v)
    (hC : ∀ r, r < 8 → npc A' (58 + 52 * p + 12 + 5 * r) = nP I' (58 + 52 * p + 12 + 5 * r))
    (hV : ∀ nv, I (58 + 52 * p) 0 = nI nv → nv ≤ 6 → nv ≤ nv' ∧ ∀ m, m < nv → A' (58 + 52 * p + 1) m = A (58 + 52 * p + 1) m) : Rel (n + 1) I' G A' L J' R' := by
  have hTr := Rel_T h
  obtain ⟨np, z, sc, ⟨p1, p2, p3, p4⟩, q2, q3, q4, ⟨g, c1, c2, c3⟩, q5, q6, q7, q8, q9⟩ := h
  have hnv' := hT.2.2.1.1
  obtain ⟨cc, cc', d1, d2, d3, d4⟩ := c3 p hp
  refine ⟨np, z, sc, ⟨p1, by rw [hI _ _ (by omega) (by omega)]; exact p2, by rw [hJ _ (by omega)]; exact p3, fun q hq => ?_⟩, Q2_of q2 (fun k => hI _ _ (by omega) (by omega)) (hJ _ (by omega)) (hJ _ (by omega)) (fun j m h1 h2 => hA j m (by omega)) (fun j m h1 h2 => hR j m (by omega)), fun q hq => ?_, Q4_of q4 rfl (fun _ _ => rfl) (fun T h => hI _ _ (by omega) (by omega)) (hJ _ (by omega)) (fun T j m h1 h2 h3 => hA j m (by omega)) (fun _ _ _ => rfl) (fun j m h1 h2 => hR j m (by omega)) ?_, ⟨g + 1, by rw [hJ14, c1, nI_1], by omega, fun q hq => ?_⟩, ?_, Q6_of q6 (hJ _ (by omega)) (fun m => hA _ _ (by omega)) (fun m => hR _ _ (by omega)), ⟨hs, by rw [hI _ _ (by omega) (by omega)]; exact q7.2⟩, Q8_u q8 hw (hI _ _ (by omega) (by omega)) (hI _ _ (by omega) (by omega)) (hJ _ (by omega)) (hJ _ (by omega)), fun j x q => by rw [hR _ _ (by omega)]; exact q9 j x q⟩
  · by_cases e : q = p
    · subst e
      exact ⟨⟨nv', nr', hT⟩, hK, hC⟩
    · obtain ⟨⟨nv, nr, hP⟩, f1, f2⟩ := p4 q hq
      refine ⟨⟨nv, nr, TPr_of3 hP (fun j k h1 h2 => hI j k (by omega) (by omega)) (fun j k h1 h2 => hA j k (by omega)) (fun j m => hRo q j m hq e)⟩, fun v hv => by rw [hRo q _ _ hq e (by unfold RPw; omega), hA _ _ (by omega)]; exact f1 v hv, fun r hr => ?_⟩
      unfold npc nP
      rw [hI _ _ (by omega) (by omega)]
      simp only [fun m => hA (58 + 52 * q + 12 + 5 * r + 3) m (by omega)]
      exact f2 r hr
  · by_cases e : q = p
    · subst e
      exact Or.inl ⟨hI3, h351, h352⟩
    · have := q3 q hq
      rw [hI _ _ (by omega) (by omega), hRo q 351 q hq e (by unfold RPw; omega), hRo q 352 q hq e (by unfold RPw; omega)]
      simp only [fun m => hA (58 + 52 * q + 11) m (by omega), fun m => hR 350 m (by omega), fun m => hR 353 m (by omega)]
      exact this
  · intro B nv ⟨q, hq, d⟩ e1 e2
    by_cases e : q = p
    · subst e
      subst d
      obtain ⟨v1, v2⟩ := hV nv e1 e2
      exact ⟨nv', v1, hnv', hT.2.2.1.2.2.1, v2⟩
    · exact ⟨nv, Nat.le_refl _, e2, by rw [hI _ _ (by omega) (by omega)]; exact e1, fun m _ => hA _ _ (by omega)⟩
  · by_cases e : q = p
    · subst e
      exact ⟨cc + 1, g + 1, by rw [hI2, d1, nI_1], by rw [hR329, c1, nI_1], by omega, by omega⟩
    · obtain ⟨x, y, y1, y2, y3, y4⟩ := c3 q hq
      exact ⟨x, y, by rw [hI _ _ (by omega) (by omega)]; exact y1, by rw [hRo q _ _ hq e (by unfold RPw; omega)]; exact y2, by omega, by omega⟩
  · rcases q5 with ⟨a, b⟩ | ⟨q, ad, nv, c, a, c', a', ⟨hq, hqn⟩, r2, r3, r4, r5, r6, r7, r8, r9, r10, r11, r12, r13, r14, r15, r16⟩
    · exact Or.inl ⟨by rw [hI _ _ (by omega) (by omega)]; exact a, by rw [hJ _ (by omega)]; exact b⟩
    · have k0 : ∀ k, 7 ≤ k → k ≤ 9 → I' 0 k = I 0 k := fun k _ _ => hI _ _ (by omega) (by omega)
      have k1 : ∀ k, 57 ≤ k → k ≤ 59 → J' 318 k = J 318 k := fun k _ _ => hJ _ (by omega)
      by_cases e : q = p
      · subst e
        obtain ⟨v1, v2⟩ := hV nv r4 r5.2
        have ec : c = cc := (t_eq (by omega) (by omega)).mp (r10.symm.trans d1)
        have ec' : c' = cc' := (t_eq (by omega) (by omega)).mp (r12.symm.trans d2)
        refine Or.inr ⟨q, ad, nv', c + 1, a, g + 1, a', ⟨hq, Qn_of (hJ _ (by omega)) q hqn⟩, by rw [k0 _ (by omega) (by omega)]; exact r2, by rw [k1 _ (by omega) (by omega)]; exact r3, hT.2.2.1.2.2.1, ⟨by omega, hnv'⟩, by rw [k0 _ (by omega) (by omega)]; exact r6, by rw [k1 _ (by omega) (by omega)]; exact r7, fun i hi => ?_, fun i h1 h2 => by rw [hA _ _ (by omega)]; exact r9 i h1 h2, by rw [hI2, r10, nI_1], by rw [k0 _ (by omega) (by omega)]; exact r11, by rw [hR329, c1, nI_1], by rw [k1 _ (by omega) (by omega)]; exact r13, by omega, by omega, Or.inr (by omega)⟩
        unfold szo
        rw [v2 i (by omega), hA _ _ (by omega), hR _ _ (by omega)]
        exact r8 i hi
      · refine Or.inr ⟨q, ad, nv, c, a, c', a', ⟨hq, Qn_of (hJ _ (by omega)) q hqn⟩, by rw [k0 _ (by omega) (by omega)]; exact r2, by rw [k1 _ (by omega) (by omega)]; exact r3, by rw [hI _ _ (by omega) (by omega)]; exact r4, r5, by rw [k0 _ (by omega) (by omega)]; exact r6, by rw [k1 _ (by omega) (by omega)]; exact r7, fun i hi => ?_, fun i h1 h2 => by rw [hA _ _ (by omega)]; exact r9 i h1 h2, by rw [hI _ _ (by omega) (by omega)]; exact r10, by rw [k0 _ (by omega) (by omega)]; exact r11, by rw [hRo q _ _ hq e (by unfold RPw; omega)]; exact r12, by rw [k1 _ (by omega) (by omega)]; exact r13, r14, r15, r16⟩
        unfold szo
        rw [hA (58 + 52 * q + 1) _ (by omega), hA _ _ (by omega), hR _ _ (by omega)]
        exact r8 i hi
end CF
