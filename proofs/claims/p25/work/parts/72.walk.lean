/-! THE TIE: the walk -/
/-- a tree with its counts and what the walk took -/
def TSw (I : Nat → Nat → Int32) (G : Nat → Nat → Nat) (A : Nat → Nat → Int32) (L : Nat → Nat → Int64) (J R : Nat → Nat → Int32) (T p B nv nr kn nn dd tk : Nat) (mt : Int32) (sv : Prop) (fb : Nat → Option (Nat × Nat)) : Prop :=
  TrAt T ∧ G T 14 = B ∧ TPr I A R p B nv nr ∧ I T 15 = mt ∧ TT I A L J R T B nv kn nn sv fb (fun a => ¬ R 345 a = 0) (fun _ => False) ∧ FC A R B nv nn fb ∧ I T 10 = nI dd ∧ J 318 30 = nI dd ∧ I T 11 = nI tk ∧ J 318 31 = nI tk ∧ ∀ i, i < tk → ∃ m, m < nn ∧ R 346 i = nI m ∧ R 345 m = 1 ∧ A (T + 9) i = nI (fi A T kn m)
/-- what the walk leaves as it was -/
def XW (T : Nat) (I A J R I' A' J' R' : Nat → Nat → Int32) : Prop := (∀ j k, ¬ (j = T ∧ k = 11) → I' j k = I j k) ∧ (∀ j m, j ≠ T + 5 → j ≠ T + 8 → j ≠ T + 9 → A' j m = A j m) ∧ (∀ j k, ¬ (j = 318 ∧ k = 31) → J' j k = J j k) ∧ (∀ j m, j ≠ 345 → j ≠ 346 → R' j m = R j m) ∧ (∀ m, ¬ R 344 m = 1 → R' 345 m = R 345 m)
theorem XW_rf {T : Nat} {I A J R : Nat → Nat → Int32} : XW T I A J R I A J R := ⟨fun _ _ _ => rfl, fun _ _ _ _ _ => rfl, fun _ _ _ => rfl, fun _ _ _ _ => rfl, fun _ _ => rfl⟩
theorem XW_tr {T : Nat} {I A J R I1 A1 J1 R1 I2 A2 J2 R2 : Nat → Nat → Int32} (a : XW T I A J R I1 A1 J1 R1) (b : XW T I1 A1 J1 R1 I2 A2 J2 R2) : XW T I A J R I2 A2 J2 R2 := by
  obtain ⟨a1, a2, a3, a4, a5⟩ := a
  obtain ⟨b1, b2, b3, b4, b5⟩ := b
  exact ⟨fun j k h => (b1 j k h).trans (a1 j k h), fun j m h1 h2 h3 => (b2 j m h1 h2 h3).trans (a2 j m h1 h2 h3), fun j k h => (b3 j k h).trans (a3 j k h), fun j m h1 h2 => (b4 j m h1 h2).trans (a4 j m h1 h2), fun m h => (b5 m (by rw [a4 344 m (by decide) (by decide)]; exact h)).trans (a5 m h)⟩
section WK
variable {I A : Nat → Nat → Int32} {L : Nat → Nat → Int64} {J R : Nat → Nat → Int32} {T p B nv nr kn nn dd tk n0 : Nat} {mt : Int32} {sv : Prop} {fb : Nat → Option (Nat × Nat)} {G : Nat → Nat → Nat}
theorem FC_c {A' R' : Nat → Nat → Int32} (h : FC A R B nv nn fb) (h1 : ∀ m, A' (B + 1) m = A (B + 1) m) (h2 : ∀ n, n < nn → R' 344 n = R 344 n) (h3 : ∀ n, n < nn → R' 338 n = R 338 n) : FC A' R' B nv nn fb := by
  refine ⟨h.1, fun n hn => ?_⟩
  unfold szo
  rw [h1, h2 n hn, dn_c (h3 n hn)]
  exact h.2 n hn
theorem t_tk (h : TSw I G A L J R T p B nv nr kn nn dd tk mt sv fb) (hn0 : n0 < nn) (h5 : R 345 n0 = 0) (h4 : R 344 n0 = 1) (ht : tk < 250) : ∃ A', f_X5_take I G A T (nI (fi A T kn n0)) = some (up2 I T 11 (nI (tk + 1)), A') ∧ f_X7_takes J R (nI n0) = some (up2 J 318 31 (nI (tk + 1)), up2 (up2 R 345 n0 1) 346 tk (nI n0)) ∧ TSw (up2 I T 11 (nI (tk + 1))) G A' L (up2 J 318 31 (nI (tk + 1))) (up2 (up2 R 345 n0 1) 346 tk (nI n0)) T p B nv nr kn nn dd (tk + 1) mt sv fb ∧ XW T I A J R (up2 I T 11 (nI (tk + 1))) A' (up2 J 318 31 (nI (tk + 1))) (up2 (up2 R 345 n0 1) 346 tk (nI n0)) ∧ fi A' T kn = fi A T kn := by
  obtain ⟨hT, hG, hPr, hmt, hX, hF, hd1, hd2, ht1, ht2, hw⟩ := h
  have hT58 := (tr_o hT).1
  have hB58 := pr_ge (tp_at hPr)
  obtain ⟨q1, q2⟩ := t_tk0 (t := tk) hX hT hn0 h5 ht ht2
  have hR : ∀ j m, j ≠ 345 → j ≠ 346 → up2 (up2 R 345 n0 1) 346 tk (nI n0) j m = R j m := fun j m h1 h2 => by rw [up2_j h2, up2_j h1]
  have hR5 : ∀ m, m ≠ n0 → up2 (up2 R 345 n0 1) 346 tk (nI n0) 345 m = R 345 m := fun m h => by rw [up2_j (by decide), up2_k h]
  have hR5' : up2 (up2 R 345 n0 1) 346 tk (nI n0) 345 n0 = 1 := by rw [up2_j (by decide), up2_s]
  have hPr2 : TPr I A (up2 (up2 R 345 n0 1) 346 tk (nI n0)) p B nv nr := TPr_of hPr (fun _ _ _ _ => rfl) (fun _ _ _ _ => rfl) (fun j k h1 h2 => hR j k (by omega) (by omega))
  have hF2 : FC A (up2 (up2 R 345 n0 1) 346 tk (nI n0)) B nv nn fb := FC_c hF (fun _ => rfl) (fun n _ => hR _ _ (by decide) (by decide)) (fun n _ => hR _ _ (by decide) (by decide))
  have hnode := (hX.2.2.2.2.2 n0 hn0).2.1 (fun q => q)
  obtain ⟨A', q3, q4, q5, q6, q7⟩ := t_tk1 (tk := fun a => ¬ R 345 a = 0) (t := tk) q2 hT hG hPr2 hF2 hn0 hR5' (by rw [hR _ _ (by decide) (by decide)]; exact h4) (fun s => by
      obtain ⟨s1, s2⟩ := hnode.2.2.2.2 s
      rw [hR _ _ (by decide) (by decide)]
      exact ⟨s1.resolve_left (s2 h4).1, (s2 h4).2⟩) (fun a _ hne => by rw [hR5 a hne]) ht ht1
  have hfi : fi A' T kn = fi A T kn := by
    funext m; unfold fi; rw [os_c (A := A) (A' := A') (fun c _ => q5 _ _ (by omega) (by omega) (by omega))]
  refine ⟨A', q3, q1, ⟨hT, hG, TPr_of hPr (fun j k h1 h2 => up2_j (by omega)) (fun j k h1 h2 => q5 j k (by omega) (by omega) (by omega)) (fun j k h1 h2 => hR j k (by omega) (by omega)), by rw [up2_k (by decide)]; exact hmt, q4, FC_c hF2 (fun m => q5 _ _ (by omega) (by omega) (by omega)) (fun _ _ => rfl) (fun _ _ => rfl), by rw [up2_k (by decide)]; exact hd1, by rw [up2_k (by decide)]; exact hd2, up2_s _ _ _ _, up2_s _ _ _ _, fun i hi => ?_⟩, ⟨fun j k h => by unfold up2; rw [if_neg h], q5, fun j k h => by unfold up2; rw [if_neg h], hR, fun m hm => hR5 m (fun e => hm (by rw [e]; exact h4))⟩, hfi⟩
  rw [hfi]
  by_cases hit : i = tk
  · subst hit
    exact ⟨n0, hn0, up2_s _ _ _ _, hR5', q7⟩
  · obtain ⟨m, m1, m2, m3, m4⟩ := hw i (by omega)
    have hmn : m ≠ n0 := fun e => by rw [e, h5] at m3; exact absurd m3 z01
    exact ⟨m, m1, by rw [up2_k hit, up2_j (by decide)]; exact m2, by rw [hR5 m hmn]; exact m3, by rw [q6 i hit]; exact m4⟩
end WK
section WL
variable {L : Nat → Nat → Int64} {T p B nv nr kn nn dd : Nat} {mt : Int32} {sv : Prop} {fb : Nat → Option (Nat × Nat)} {G : Nat → Nat → Nat}
/-- the results: 0 stopped, 1 found, 2 nothing, 3 limited, 4 large -/
theorem t_walk (h14 : G 14 0 = T) : ∀ (k i fu fu' tk : Nat) (I A J R : Nat → Nat → Int32), tk + k = 250 → 0 < k → i ≤ tk → k < fu → k < fu' → I 14 2 = J 318 24 → TSw I G A L J R T p B nv nr kn nn dd tk mt sv fb → ∃ r I' A' J' R' tk', f_X3_walkOn_L2 G L (fun I6 A7 => some ((2 : Int32), I6, A7)) (fun I9 A10 => some ((0 : Int32), I9, A10)) (fun I12 A13 => some ((1 : Int32), I12, A13)) (fun I15 A16 => some ((4 : Int32), I15, A16)) (fun I18 A19 => some ((3 : Int32), I18, A19)) (fun I21 A22 => some ((0 : Int32), I21, A22)) fu (nI i) I A = some (r, I', A') ∧ f_X7_walks_L5 (nI p) (fun I8 A9 => some ((1 : Int32), I8, A9)) (fun I11 A12 => some ((4 : Int32), I11, A12)) (fun I14 A15 => some ((3 : Int32), I14, A15)) (fun v17 I18 A19 => if v17 = (-9) then (some ((2 : Int32), I18, A19)) else (some ((0 : Int32), I18, A19))) fu' (enc (-9) (nxw R nn)) J R = some (r, J', R') ∧ TSw I' G A' L J' R' T p B nv nr kn nn dd tk' mt sv fb ∧ XW T I A J R I' A' J' R' ∧ tk ≤ tk' ∧ tk' ≤ 250 ∧ ((r = 0 ∧ tk' < 250 ∧ (∃ m, nxw R' nn = some m ∧ R' 344 m = 0)) ∨ (r = 1 ∧ 0 < tk' ∧ ∃ m, m < nn ∧ R' 346 (tk' - 1) = nI m ∧ dn R' m = nv) ∨ (r = 2 ∧ nxw R' nn = none) ∨ r = 3 ∨ r = 4) := by
  intro k
  induction k with
  | zero => intro i fu fu' tk I A J R h1 h2; omega
  | succ k ih =>
    intro i fu fu' tk I A J R hk _ hit hf hf' hlim hS
    obtain ⟨fu, rfl⟩ : ∃ z, fu = z + 1 := ⟨fu - 1, by omega⟩
    obtain ⟨fu', rfl⟩ : ∃ z, fu' = z + 1 := ⟨fu' - 1, by omega⟩
    have hS0 := hS
    obtain ⟨hT, hG, hPr, hmt, hX, hF, hd1, hd2, ht1, ht2, hw⟩ := hS
    have hT58 := (tr_o hT).1
    have hT22 : 22 ≤ T := by rcases hT with h | h | h <;> omega
    have hB58 := pr_ge (tp_at hPr)
    have hp := hPr.1
    have hnv := hPr.2.2.1.1
    have hlT := (tr_l hT).2.2.2.2.2.2.2.2.2.2.2
    have hnn := tt_nn hT hX
    have hknl := hX.2.2.2.1
    obtain ⟨g0, g1, g2, g3, g4, g5, g6, g7, g8, g9, g10, g11⟩ := tgd hT
    obtain ⟨n1, n2⟩ := t_nxw hX hT
    rw [f_X3_walkOn_L2, if_pos (show nI i < 250 from nI_lt (b := 250) (by omega) (by omega)), h14, gd_t g0, n1, Option.bind_some, f_X7_walks_L5]
    cases hnx : nxw R nn with
    | none =>
      refine ⟨2, I, A, J, R, tk, ?_, ?_, hS0, XW_rf, Nat.le_refl _, by omega, Or.inr (Or.inr (Or.inl ⟨rfl, hnx⟩))⟩
      · rw [if_pos (show enc (-1) (Option.map (fi A T kn) none) = -1 from rfl)]
      · rw [if_pos (show enc (-9) none = -9 from rfl), if_pos (show enc (-9) none = -9 from rfl)]
    | some n0 =>
      obtain ⟨o1, o2, o3⟩ := nxw_o hnx
      obtain ⟨s1, s2, s3, s4⟩ := hX.2.2.2.2.2 n0 o1
      have s2 := s2 (fun q => q)
      have hc0 := (fi_mem (A := A) (T := T) (kn := kn) (n := n0) (by rw [hX.1]; exact o1)).1
      obtain ⟨i1, i2, i3, i4, i5, i6, i7, i8⟩ := ti hT (show fi A T kn n0 < lT T by omega)
      have e1 : enc (-1) (Option.map (fi A T kn) (some n0)) = nI (fi A T kn n0) := rfl
      have e2 : enc (-9) (some n0) = nI n0 := rfl
      rw [e1, e2, if_neg (t_m1 (by omega)), gd_t g5, gd_t i5, t_cl (show fi A T kn n0 < 2147483648 by omega), if_neg (t_m9 (by omega)), gd_in (show n0 < 2000 by omega) (by omega), t_cl (show n0 < 2147483648 by omega)]
      by_cases h4 : R 344 n0 = 0
      · refine ⟨0, I, A, J, R, tk, ?_, ?_, hS0, XW_rf, Nat.le_refl _, by omega, Or.inl ⟨rfl, by omega, n0, hnx, h4⟩⟩
        · have : ¬ A (T + 5) (fi A T kn n0) = 2 := by
            rw [s2.1]; unfold stg; rw [o2, h4, if_pos rfl, if_pos rfl]; split <;> decide
          rw [if_neg this]
        · rw [if_pos h4, if_neg (t_m9 (by omega))]
      · have h41 : R 344 n0 = 1 := s2.2.1.resolve_left h4
        have hst : A (T + 5) (fi A T kn n0) = 2 := by
          rw [s2.1]; unfold stg; rw [o2, if_pos rfl, if_neg h4]
        obtain ⟨A1, p1, p2, p3, p4, p5⟩ := t_tk hS0 o1 o2 h41 (by omega)
        have hP1 := p3.2.2.1
        have hX1 := p3.2.2.2.2.1
        have hfull := t_full (I := up2 I T 11 (nI (tk + 1))) (A := A1) (d := dn R n0) (nv := nv) hT hG (tp_at hPr) (show fi A T kn n0 < lT T by omega) (by rw [p4.2.1 _ _ (by omega) (by omega) (by omega)]; exact s1.2.2.1) hP1.2.2.1.2.2.1 (by have := s1.1; omega) hnv
        have hd338 : up2 (up2 R 345 n0 1) 346 tk (nI n0) 338 n0 = nI (dn R n0) := by rw [p4.2.2.2.1 _ _ (by decide) (by decide)]; exact s1.2.1
        have hv319 : up2 (up2 R 345 n0 1) 346 tk (nI n0) 319 p = nI nv := hP1.2.2.2.1
        have hI11 : up2 I T 11 (nI (tk + 1)) T 11 = nI (tk + 1) := up2_s _ _ _ _
        have hJ31 : up2 J 318 31 (nI (tk + 1)) 318 31 = nI (tk + 1) := up2_s _ _ _ _
        have hI2 : up2 I T 11 (nI (tk + 1)) 14 2 = I 14 2 := up2_j (by omega)
        have hJ2 : up2 J 318 31 (nI (tk + 1)) 318 24 = J 318 24 := up2_k (by decide)
        have hdle := s1.1
        rw [if_pos hst, p1, Option.bind_some, if_neg h4, p2, Option.bind_some]
        dsimp only
        rw [hfull, Option.bind_some, gd_in hp (by omega), t_cl (show p < 2147483648 by omega), hd338, hv319, hI11, hJ31, hI2, hJ2, hlim]
        by_cases hfu : dn R n0 < nv
        · rw [if_pos hfu, if_pos rfl, if_neg (show ¬ nI (dn R n0) = nI nv from fun q => by rw [t_eq (by omega) (by omega)] at q; omega)]
          by_cases h250 : tk + 1 = 250
          · refine ⟨4, _, A1, _, _, tk + 1, ?_, ?_, p3, p4, by omega, by omega, Or.inr (Or.inr (Or.inr (Or.inr rfl)))⟩
            · rw [if_neg (show ¬ nI (tk + 1) < 250 from nI_nlt (b := 250) (by omega) (by omega))]
            · rw [if_pos (show nI (tk + 1) = 250 by rw [h250]; rfl)]
          · rw [if_pos (show nI (tk + 1) < 250 from nI_lt (b := 250) (by omega) (by omega)), if_neg (show ¬ nI (tk + 1) = 250 from fun q => by
              have q : nI (tk + 1) = nI 250 := q
              rw [t_eq (by omega) (by omega)] at q; omega)]
            by_cases hl : nI (tk + 1) = J 318 24
            · refine ⟨3, _, A1, _, _, tk + 1, ?_, ?_, p3, p4, by omega, by omega, Or.inr (Or.inr (Or.inr (Or.inl rfl)))⟩
              · rw [if_pos hl]
              · rw [if_pos hl]
            · rw [if_neg hl, if_neg hl, nI_1]
              obtain ⟨m1, m2⟩ := t_nxw hX1 hT
              rw [m2, Option.bind_some]
              obtain ⟨r, I', A', J', R', tk', q1, q2, q3, q4, q5, q6, q7⟩ := ih (i + 1) fu fu' (tk + 1) _ A1 _ _ (by omega) (by omega) (by omega) (by omega) (by omega) (by rw [hI2, hJ2]; exact hlim) p3
              exact ⟨r, I', A', J', R', tk', q1, q2, q3, XW_tr p4 q4, by omega, q6, q7⟩
        · have hdv : dn R n0 = nv := by omega
          rw [if_neg hfu, if_neg z10, if_pos (show nI (dn R n0) = nI nv by rw [hdv])]
          refine ⟨1, _, A1, _, _, tk + 1, rfl, rfl, p3, p4, by omega, by omega, Or.inr (Or.inl ⟨rfl, by omega, n0, o1, ?_, ?_⟩)⟩
          · rw [Nat.add_sub_cancel, up2_s]
          · rw [dn_c (p4.2.2.2.1 338 n0 (by decide) (by decide))]; exact hdv
end WL
