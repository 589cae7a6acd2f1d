/-! p25: the walk; a whole turn; it comes to an end -/
section WK
variable {I A J R : Nat → Nat → Int32} {B v p nv nr nn dd tk tn z n m a h c : Nat} {lim r : Int32}
/-- how a turn ends -/
def Fin9 (R : Nat → Nat → Int32) (nv nn tk : Nat) (lim r : Int32) : Prop := (r = 0 ∧ tk < 250 ∧ M9 R nv tk lim ∧ ∃ m, nxw R nn = some m ∧ R 344 m = 0) ∨ (r = 2 ∧ tk < 250 ∧ M9 R nv tk lim ∧ nxw R nn = none) ∨ ∃ k m, tk = k + 1 ∧ M9 R nv k lim ∧ R 346 k = nI m ∧ m < nn ∧ ((r = 1 ∧ dn R m = nv) ∨ (r = 4 ∧ dn R m < nv ∧ tk = 250) ∨ (r = 3 ∧ dn R m < nv ∧ ¬ tk = 250 ∧ nI tk = lim))
theorem mv_next (hM : MV I A J R p B v nv nr nn dd tk tn z) : f_X7_nextOf J R = some (enc (-9) (nxw R nn)) := by
  obtain ⟨hP, hv, z1, z5, j1, j2, j3, hnn, ht, h2, h3, h4, h5, h6, h7, h8⟩ := hM
  refine r_nextOf (by omega) j1 (fun n hn => ?_)
  rcases (h2 n hn).2 with ⟨_, _, e⟩ | ⟨a, ⟨a1, a2⟩, _⟩
  · exact Or.inl e
  · exact Or.inr ⟨a, by omega, a2⟩
theorem m9_t {x : Nat} (h9 : M9 R nv tk lim) : M9 (up2 (up2 R 345 x 1) 346 tk (nI x)) nv tk lim := fun k m hk e hm => by
  rw [up2_k (by omega), up2_j (by decide)] at e
  have := h9 k m hk e hm
  have ed : dn (up2 (up2 R 345 x 1) 346 tk (nI x)) m = dn R m := by unfold dn; rw [up2_j (by decide), up2_j (by decide)]
  rw [ed]
  exact this
theorem r_wlk : ∀ (k tk fu : Nat) (J R : Nat → Nat → Int32), tk + k = 250 → 0 < k → k < fu → MV I A J R p B v nv nr nn dd tk tn z → M9 R nv tk lim → J 318 24 = lim → ∃ r J' R' tk', f_X7_walks_L5 (nI p) (fun I8 A9 => some ((1 : Int32), I8, A9)) (fun I11 A12 => some ((4 : Int32), I11, A12)) (fun I14 A15 => some ((3 : Int32), I14, A15)) (fun v17 I18 A19 => if v17 = (-9) then (some ((2 : Int32), I18, A19)) else (some ((0 : Int32), I18, A19))) fu (enc (-9) (nxw R nn)) J R = some (r, J', R') ∧ MV I A J' R' p B v nv nr nn dd tk' tn z ∧ Fin9 R' nv nn tk' lim r ∧ (∀ k, k ≠ 31 → J' 318 k = J 318 k) ∧ (∀ j m, j ≠ 345 → j ≠ 346 → R' j m = R j m) := by
  intro k
  induction k with
  | zero => intro tk fu J R _ h0; exact absurd h0 (by omega)
  | succ k ih =>
    intro tk fu J R hk h0 hf hM h9 hl
    obtain ⟨fu, rfl⟩ : ∃ y, fu = y + 1 := ⟨fu - 1, by omega⟩
    rw [f_X7_walks_L5]
    cases hx : nxw R nn with
    | none =>
      rw [show enc (-9) none = -9 from rfl, if_pos rfl, if_pos rfl]
      exact ⟨2, J, R, tk, rfl, hM, Or.inr (Or.inl ⟨rfl, by omega, h9, hx⟩), fun _ _ => rfl, fun _ _ _ _ => rfl⟩
    | some m =>
      obtain ⟨hP, hv, z1, z5, j1, j2, j3, hnn, ht, h2, h3, h4, h5, h6, h7, h8⟩ := id hM
      obtain ⟨m1, m2, m3, m4⟩ := nx_l h2 hP hv h3 h4 hx (by omega)
      have em : enc (-9) (some m) = nI m := rfl
      have nm9 : ¬ nI m = -9 := t_m9 (by omega)
      rw [em, if_neg nm9, gd_in (by omega) (by omega), t_cl (by omega)]
      by_cases hd : R 344 m = 0
      · rw [if_pos hd, if_neg nm9]
        exact ⟨0, J, R, tk, rfl, hM, Or.inl ⟨rfl, by omega, h9, m, hx, hd⟩, fun _ _ => rfl, fun _ _ _ _ => rfl⟩
      · rw [if_neg hd]
        have hd1 : R 344 m = 1 := (h3 m m1).1.resolve_left hd
        obtain ⟨t1, t2⟩ := takes hM hx hd1 (by omega)
        rw [t1, Option.bind_some]
        have hp := hP.1
        have hR : ∀ j x, j ≠ 345 → j ≠ 346 → up2 (up2 R 345 m 1) 346 tk (nI m) j x = R j x := fun j x q1 q2 => by rw [up2_j q2, up2_j q1]
        have hJ : ∀ k, k ≠ 31 → up2 J 318 31 (nI (tk + 1)) 318 k = J 318 k := fun k q => up2_k q
        have ed : dn (up2 (up2 R 345 m 1) 346 tk (nI m)) m = dn R m := by unfold dn; rw [hR _ _ (by decide) (by decide)]
        have nd := (h2 m m1).1
        show ∃ r J' R' tk', (gd (inr (nI p) 5) <| _) = some (r, J', R') ∧ _
        rw [gd_in (by omega) (by omega), t_cl (by omega), hR 338 m (by decide) (by decide), hR 319 p (by decide) (by decide), nd.2.1, hP.2.2.2.1, up2_s]
        by_cases f1 : dn R m = nv
        · rw [if_pos (by rw [f1])]
          exact ⟨1, _, _, tk + 1, rfl, t2, Or.inr (Or.inr ⟨tk, m, rfl, m9_t h9, up2_s _ _ _ _, m1, Or.inl ⟨rfl, by rw [ed]; exact f1⟩⟩), hJ, hR⟩
        · have f1' : dn R m < nv := by have := nd.1; omega
          have nv6 := hP.2.2.1.1
          rw [if_neg (fun q => f1 ((t_eq (by omega) (by omega)).mp q))]
          by_cases f2 : tk + 1 = 250
          · rw [if_pos (show nI (tk + 1) = 250 by rw [f2]; rfl)]
            exact ⟨4, _, _, tk + 1, rfl, t2, Or.inr (Or.inr ⟨tk, m, rfl, m9_t h9, up2_s _ _ _ _, m1, Or.inr (Or.inl ⟨rfl, by rw [ed]; exact f1', f2⟩)⟩), hJ, hR⟩
          · rw [if_neg (show ¬ nI (tk + 1) = 250 from fun q => f2 ((t_eq (b := 250) (by omega) (by omega)).mp q)), hJ 24 (by decide), hl]
            by_cases f3 : nI (tk + 1) = lim
            · rw [if_pos f3]
              exact ⟨3, _, _, tk + 1, rfl, t2, Or.inr (Or.inr ⟨tk, m, rfl, m9_t h9, up2_s _ _ _ _, m1, Or.inr (Or.inr ⟨rfl, by rw [ed]; exact f1', f2, f3⟩)⟩), hJ, hR⟩
            · rw [if_neg f3, mv_next t2, Option.bind_some]
              have h9' : M9 (up2 (up2 R 345 m 1) 346 tk (nI m)) nv (tk + 1) lim := fun k' x hk' e hx' => by
                by_cases q : k' = tk
                · subst q
                  rw [up2_s] at e
                  obtain rfl : m = x := (t_eq (by omega) (by omega)).mp e
                  rw [ed]
                  exact ⟨f1', f2, f3⟩
                · exact m9_t h9 k' x (by omega) e hx'
              obtain ⟨r, J', R', tk', g1, g2, g3, g4, g5⟩ := ih (tk + 1) fu _ _ (by omega) (by omega) (by omega) t2 h9' (by rw [hJ 24 (by decide)]; exact hl)
              exact ⟨r, J', R', tk', g1, g2, g3, fun q hq => (g4 q hq).trans (hJ q hq), fun j x q1 q2 => (g5 j x q1 q2).trans (hR j x q1 q2)⟩
/-- turns until helper h has its turn -/
def dl (tn z h : Nat) : Nat := (h + z - tn % z) % z
/-- one will finish within K turns -/
def Pg (R : Nat → Nat → Int32) (tn z K : Nat) : Prop := (∃ h, h < z ∧ ¬ R 337 h = -9 ∧ dl tn z h < K) ∨ 5 < K
theorem dl_s (z1 : 1 ≤ z) (z5 : z ≤ 5) (hh : h < z) (hne : h ≠ tn % z) : dl (tn + 1) z h + 1 = dl tn z h := by
  unfold dl
  rcases (show z = 1 ∨ z = 2 ∨ z = 3 ∨ z = 4 ∨ z = 5 by omega) with rfl | rfl | rfl | rfl | rfl <;> omega
/-- a whole turn -/
theorem r_trn (hM : MV I A J R p B v nv nr nn dd tk tn z) (h9 : M9 R nv tk lim) (hl : J 318 24 = lim) (ht : tk < 250) (hx : nxw R nn = some m) (hd : R 344 m = 0) {K : Nat} (hK : Pg R tn z (K + 1)) : ∃ J2 R2 r J' R' nn' dd' tk', f_X7_turnOf (up2 J 318 28 (nI (tn + 1))) R (nI p) (nI (tn % z)) = some (J2, R2) ∧ f_X7_walks J2 R2 (nI p) = some (r, J', R') ∧ MV I A J' R' p B v nv nr nn' dd' tk' (tn + 1) z ∧ Fin9 R' nv nn' tk' lim r ∧ J' 318 24 = lim ∧ nn ≤ nn' ∧ (dd' = dd + 1 ∨ (dd' = dd ∧ Pg R' (tn + 1) z K)) := by
  have had := ahead hM hx hd
  obtain ⟨hP, hv, z1, z5, j1, j2, j3, hnn, ht2, h2, h3, h4, h5, h6, h7, h8⟩ := id hM
  obtain ⟨m1, m2, m3, m4⟩ := nx_l h2 hP hv h3 h4 hx (by omega)
  have hcz : tn % z < z := Nat.mod_lt _ (by omega)
  obtain ⟨hh5, hhold⟩ := h5.2 (tn % z) hcz
  have hJ1 : ∀ k, k ≠ 28 → up2 J 318 28 (nI (tn + 1)) 318 k = J 318 k := fun k q => up2_k q
  have walk : ∀ (J2 R2 : Nat → Nat → Int32) (nn' dd' : Nat), MV I A J2 R2 p B v nv nr nn' dd' tk (tn + 1) z → M9 R2 nv tk lim → J2 318 24 = lim → ∃ r J' R' tk', f_X7_walks J2 R2 (nI p) = some (r, J', R') ∧ MV I A J' R' p B v nv nr nn' dd' tk' (tn + 1) z ∧ Fin9 R' nv nn' tk' lim r ∧ J' 318 24 = lim ∧ ∀ j m, j ≠ 345 → j ≠ 346 → R' j m = R2 j m := by
    intro J2 R2 nn' dd' hM2 h92 hl2
    obtain ⟨r, J', R', tk', g1, g2, g3, g4, g5⟩ := r_wlk (250 - tk) tk FU J2 R2 (by omega) (by omega) (t_fu _ (by omega)) hM2 h92 hl2
    refine ⟨r, J', R', tk', ?_, g2, g3, (g4 24 (by decide)).trans hl2, g5⟩
    unfold f_X7_walks
    rw [mv_next hM2, Option.bind_some]
    exact g1
  rcases hhold with hno | ⟨u, u1, u2, u3, u4⟩
  · -- empty-handed
    have hsc := r_free_L (J := up2 J 318 28 (nI (tn + 1))) (R := R) (nn := nn) (a2 := nI (tn % z)) (k21 := fun (v22 : Int32) => if v22 = (-9) then (some (up2 J 318 28 (nI (tn + 1)), up2 R 332 (tn % z) (R 332 (tn % z) + 1))) else (if ((up2 J 318 28 (nI (tn + 1)) 318 30) - (up2 J 318 28 (nI (tn + 1)) 318 31)) < 30 then (gd (inr v22 2000) <| some (up2 J 318 28 (nI (tn + 1)), up2 (up2 (up2 R 337 (tn % z) v22) 343 v22.toNatClampNeg (nI (tn % z))) 336 (tn % z) ((up2 (up2 R 337 (tn % z) v22) 343 v22.toNatClampNeg (nI (tn % z))) 336 (tn % z) + 1))) else some (up2 J 318 28 (nI (tn + 1)), up2 R 332 (tn % z) (R 332 (tn % z) + 1)))) (by omega) ((hJ1 29 (by decide)).trans j1) nn 0 FU none (by omega) (t_fu _ (by omega)) (fun j hj => by cases hj)
    have hrf : f_X7_turnOf (up2 J 318 28 (nI (tn + 1))) R (nI p) (nI (tn % z)) = (if enc (-9) (nxf R nn) = (-9) then (some (up2 J 318 28 (nI (tn + 1)), up2 R 332 (tn % z) (R 332 (tn % z) + 1))) else (if ((up2 J 318 28 (nI (tn + 1)) 318 30) - (up2 J 318 28 (nI (tn + 1)) 318 31)) < 30 then (gd (inr (enc (-9) (nxf R nn)) 2000) <| some (up2 J 318 28 (nI (tn + 1)), up2 (up2 (up2 R 337 (tn % z) (enc (-9) (nxf R nn))) 343 (enc (-9) (nxf R nn)).toNatClampNeg (nI (tn % z))) 336 (tn % z) ((up2 (up2 R 337 (tn % z) (enc (-9) (nxf R nn))) 343 (enc (-9) (nxf R nn)).toNatClampNeg (nI (tn % z))) 336 (tn % z) + 1))) else some (up2 J 318 28 (nI (tn + 1)), up2 R 332 (tn % z) (R 332 (tn % z) + 1)))) := by
      simp (disch := omega) only [f_X7_turnOf, gd_in, t_cl, hno, if_true, bd]
      exact hsc
    have pgH : ∀ (R' : Nat → Nat → Int32), (∀ h, h ≠ tn % z → R' 337 h = R 337 h) → (∃ h, h < z ∧ ¬ R 337 h = -9 ∧ dl tn z h < K + 1) → Pg R' (tn + 1) z K := fun R' hR' ⟨h, q1, q2, q3⟩ => by
      have hne : h ≠ tn % z := fun r => q2 (by rw [r]; exact hno)
      exact Or.inl ⟨h, q1, by rw [hR' h hne]; exact q2, by have := dl_s z1 z5 q1 hne; omega⟩
    cases hf : nxf R nn with
    | none =>
      have hnf : ∀ x, x < nn → ¬ R 343 x = -9 := fun x hx e => by
        have := (amin_n _ _ hf).2 x (List.mem_range'_1.mpr ⟨by omega, by omega⟩)
        unfold qfr at this
        rw [decide_eq_true e] at this
        exact absurd this (by decide)
      rw [hf] at hrf
      rw [show enc (-9) none = -9 from rfl, if_pos rfl] at hrf
      have hR2 : ∀ j x, j ≠ 332 → up2 R 332 (tn % z) (R 332 (tn % z) + 1) j x = R j x := fun j x q => up2_j q
      have hM2 := idle hM hno hJ1 hR2
      obtain ⟨r, J', R', tk', g1, g2, g3, g4, g5⟩ := walk _ _ nn dd hM2 (fun k x hk e hx' => by
        rw [hR2 _ _ (by decide)] at e
        have ed : dn (up2 R 332 (tn % z) (R 332 (tn % z) + 1)) x = dn R x := by unfold dn; rw [hR2 _ _ (by decide)]
        rw [ed]; exact h9 k x hk e hx') ((hJ1 24 (by decide)).trans hl)
      refine ⟨_, _, r, J', R', nn, dd, tk', hrf, g1, g2, g3, g4, Nat.le_refl _, Or.inr ⟨rfl, ?_⟩⟩
      refine pgH R' (fun h q => by rw [g5 _ _ (by decide) (by decide), hR2 _ _ (by decide)]) ?_
      rcases hK with hK | hK
      · exact hK
      · obtain ⟨h, q1, q2, q3⟩ := (h5.1 m m1).resolve_left (hnf m m1)
        refine ⟨h, q1, ?_, ?_⟩
        · rcases q3 with q3 | q3
          · rw [hd] at q3; exact absurd q3 (by decide)
          · rw [q3]; exact t_m9 (by omega)
        · have : dl tn z h < z := Nat.mod_lt _ (by omega)
          omega
    | some x =>
      have hq : x ∈ List.range' 0 nn ∧ qfr R x = true := (amin_o _ _ _ hf).resolve_left (by simp)
      have hxn : x < nn := by have := (List.mem_range'_1.mp hq.1).2; omega
      rw [hf] at hrf
      have e30 : (up2 J 318 28 (nI (tn + 1)) 318 30) - (up2 J 318 28 (nI (tn + 1)) 318 31) < 30 := by
        rw [hJ1 30 (by decide), hJ1 31 (by decide), j2, j3, ltI, Int32.toInt_sub, nI_toInt (by omega), nI_toInt (by omega), show (30 : Int32).toInt = 30 by decide, Int.bmod_eq_of_le (by omega) (by omega)]
        omega
      rw [show enc (-9) (some x) = nI x from rfl, if_neg (t_m9 (by omega)), if_pos e30, gd_in (by omega) (by omega), t_cl (by omega)] at hrf
      obtain ⟨R2, eR2⟩ : ∃ w, w = up2 (up2 (up2 R 337 (tn % z) (nI x)) 343 x (nI (tn % z))) 336 (tn % z) ((up2 (up2 R 337 (tn % z) (nI x)) 343 x (nI (tn % z))) 336 (tn % z) + 1) := ⟨_, rfl⟩
      rw [← eR2] at hrf
      have hR2 : ∀ j y, j ≠ 336 → ¬ (j = 337 ∧ y = tn % z) → ¬ (j = 343 ∧ y = x) → R2 j y = R j y := fun j y q1 q2 q3 => by rw [eR2, up2_j q1, up2_n q3, up2_n q2]
      have r37 : R2 337 (tn % z) = nI x := by rw [eR2, up2_j (by decide), up2_j (by decide), up2_s]
      have r43 : R2 343 x = nI (tn % z) := by rw [eR2, up2_j (by decide), up2_s]
      have hM2 := pick hM hno hf hJ1 hR2 r37 r43
      obtain ⟨r, J', R', tk', g1, g2, g3, g4, g5⟩ := walk _ _ nn dd hM2 (fun k y hk e hy' => by
        rw [hR2 _ _ (by decide) (by omega) (by omega)] at e
        have ed : dn R2 y = dn R y := by unfold dn; rw [hR2 _ _ (by decide) (by omega) (by omega)]
        rw [ed]; exact h9 k y hk e hy') ((hJ1 24 (by decide)).trans hl)
      refine ⟨_, _, r, J', R', nn, dd, tk', hrf, g1, g2, g3, g4, Nat.le_refl _, Or.inr ⟨rfl, ?_⟩⟩
      rcases hK with hK | hK
      · exact pgH R' (fun h q => by rw [g5 _ _ (by decide) (by decide), hR2 _ _ (by decide) (by omega) (by omega)]) hK
      · refine Or.inl ⟨tn % z, hcz, ?_, ?_⟩
        · rw [g5 _ _ (by decide) (by decide), r37]; exact t_m9 (by omega)
        · have : dl (tn + 1) z (tn % z) < z := Nat.mod_lt _ (by omega)
          omega
  · -- it holds a node
    have e1 : up2 R 337 (tn % z) (-9) 335 (tn % z) = 0 := by rw [up2_j (by decide)]; exact hh5
    obtain ⟨J', R', nn', g1, g2, g3, g4, g5, g6⟩ := fins hM had u1 u2 u3 u4 hJ1 (R0 := up2 (up2 R 337 (tn % z) (-9)) 334 (tn % z) (up2 R 337 (tn % z) (-9) 334 (tn % z) + 1)) (fun j y q1 q2 => by rw [up2_j q1, up2_n q2]) (by rw [up2_j (by decide), up2_s])
    have hrf : f_X7_turnOf (up2 J 318 28 (nI (tn + 1))) R (nI p) (nI (tn % z)) = some (J', R') := by
      have n9 : ¬ nI u = -9 := t_m9 (by omega)
      simp (disch := omega) only [f_X7_turnOf, gd_in, t_cl, u2, n9, if_false, bd, e1, Int32.lt_irrefl, g1, Option.bind_some]
    have h92 : M9 R' nv tk lim := fun k y hk e hy' => by
      rw [g5] at e
      obtain ⟨y0, y1, y2, _⟩ := h8.1 k hk
      obtain rfl : y = y0 := (t_eq (by omega) (by omega)).mp (e.symm.trans y2)
      rw [g4 y y1]
      exact h9 k y hk e hy'
    obtain ⟨r, J3, R3, tk', k1, k2, k3, k4, k5⟩ := walk J' R' nn' (dd + 1) g2 h92 (by rw [g3 24 (by omega)]; exact hl)
    exact ⟨_, _, r, J3, R3, nn', dd + 1, tk', hrf, k1, k2, k3, k4, g6, Or.inl rfl⟩
end WK
