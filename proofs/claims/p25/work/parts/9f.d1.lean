/-! p25: same answers 1 -/
section SB
variable {I A J R : Nat → Nat → Int32} {B v p nv nr z : Nat}
/-- a run's first node -/
theorem r_bgn (hPr : TPr I A R p B nv nr) (hv : v < 58) (z1 : 1 ≤ z) (z5 : z ≤ 5) (h35 : ∀ h, h < z → R 335 h = 0 ∧ R 337 h = -9) : ∃ J' R', f_X7_begins J R (nI p) 1 = some (J', R') ∧ ((¬ (lkw I A B v nv nr (fun _ => 0) 0).1 = 0 ∧ J' 318 29 = nI 0) ∨ ((lkw I A B v nv nr (fun _ => 0) 0).1 = 0 ∧ J' 318 29 = nI 1 ∧ MV I A J' R' p B v nv nr 1 0 0 0 z ∧ nxw R' 1 = some 0 ∧ R' 344 0 = 0)) ∧ (∀ k, ¬ (k = 29 ∨ k = 30 ∨ k = 31 ∨ k = 64 ∨ k = 65) → J' 318 k = J 318 k) := by
  have hB := hPr.2.1
  have hp := hPr.1
  have hnv := hPr.2.2.1.1
  obtain ⟨As, eAs⟩ : ∃ w, w = Aw A v (fun _ => 0) 0 := ⟨_, rfl⟩
  have oAs : ∀ j m, j ≠ v → As j m = A j m := fun j m q => by rw [eAs]; unfold Aw; rw [if_neg q]
  have vAs : ∀ i, As v i = -1 := fun i => by rw [eAs]; unfold Aw; rw [if_pos rfl, if_neg (by omega)]
  have r9 : ∀ j m, j ≠ 364 → nw9 R 6 j m = R j m := fun j m q => by unfold nw9; rw [if_neg (fun r => q r.1)]
  have r94 : ∀ i, i < 6 → nw9 R 6 364 i = -9 := fun i hi => by unfold nw9; rw [if_pos ⟨rfl, hi⟩]
  have hPr2 : TPr I As (nw9 R 6) p B nv nr := TPr_of hPr (fun _ _ _ _ => rfl) (fun j k h1 h2 => oAs j k (by omega)) (fun j k h1 h2 => r9 j k (by omega))
  have hro : TRo As (nw9 R 6) v := fun i hi => Or.inl ⟨vAs i, r94 i hi⟩
  have hRoW : RoW As B v 0 := ⟨fun i hi => absurd hi (by omega), fun i _ hi => vAs i⟩
  obtain ⟨J3, e3⟩ : ∃ z, z = up2 (up2 (up2 J 318 29 0) 318 30 0) 318 31 0 := ⟨_, rfl⟩
  have j3 : ∀ k, ¬ (k = 29 ∨ k = 30 ∨ k = 31) → J3 318 k = J 318 k := fun k q => by rw [e3, up2_k (by omega), up2_k (by omega), up2_k (by omega)]
  have j29 : J3 318 29 = nI 0 := by rw [e3, up2_k (by decide), up2_k (by decide), up2_s]; rfl
  have j30 : J3 318 30 = nI 0 := by rw [e3, up2_k (by decide), up2_s]; rfl
  have j31 : J3 318 31 = nI 0 := by rw [e3, up2_s]; rfl
  obtain ⟨J21, hwh, hJf, hJ0, hJ1⟩ := r_whatIs (J := J3) (mt := 1) hPr2 hro hv hRoW (Nat.zero_le nv)
  have ew : lkw I A B v nv nr (fun _ => 0) 0 = lk I As B v nv nr 0 1 := by unfold lkw; rw [eAs]
  rw [ew]
  generalize hw3 : lk I As B v nv nr 0 1 = w3 at hwh hJ0 hJ1 ew ⊢
  have hL := r_beg_L (J := J3) (R := R) (a1 := nI p) (a2 := 1) (k7 := fun A8 => Option.bind (f_X7_whatIs J3 A8 (nI p) 0 1) fun (r9, I10, A11) => if r9 = 0 then (Option.bind (f_X7_addNode I10 A11 0 (-9)) fun (I14, A15) => some (I14, A15)) else (some (I10, A11))) 6 0 FU (by omega) (t_fu _ (by omega))
  have e9 : nw9 R 0 = R := by funext j m; unfold nw9; rw [if_neg (fun q => by omega)]
  rw [e9] at hL
  have hwh0 : f_X7_whatIs J3 (nw9 R 6) (nI p) 0 1 = some (w3.1, J21, nw9 R 6) := hwh
  have hbg : f_X7_begins J R (nI p) 1 = if w3.1 = 0 then (Option.bind (f_X7_addNode J21 (nw9 R 6) 0 (-9)) fun (I14, A15) => some (I14, A15)) else some (J21, nw9 R 6) := by
    have : f_X7_begins J R (nI p) 1 = f_X7_begins_L17 (nI p) 1 J3 (fun A8 => Option.bind (f_X7_whatIs J3 A8 (nI p) 0 1) fun (r9, I10, A11) => if r9 = 0 then (Option.bind (f_X7_addNode I10 A11 0 (-9)) fun (I14, A15) => some (I14, A15)) else (some (I10, A11))) FU (nI 0) R := by
      rw [e3]; rfl
    rw [this, hL]
    show Option.bind (f_X7_whatIs J3 (nw9 R 6) (nI p) 0 1) _ = _
    rw [hwh0, Option.bind_some]
  by_cases h0 : w3.1 = 0
  · rw [if_pos h0] at hbg
    obtain ⟨R', a1, a2, a3, a4, a5, a6, a7, a8, a9, a10, a11⟩ := r_add (J := J21) (R := nw9 R 6) (nn := 0) (d := 0) (w := fun _ => 0) (a2 := -9) ((hJf 318 29 (by omega)).trans j29) (by omega) (by omega) (fun i hi => absurd hi (by omega))
    have a1' : f_X7_addNode J21 (nw9 R 6) 0 (-9) = some (up2 J21 318 29 (nI (0 + 1)), R') := a1
    rw [a1', Option.bind_some] at hbg
    have fr : ∀ j m, (j < 338 ∨ 345 < j) → j ≠ 349 → j ≠ 364 → R' j m = R j m := fun j m q1 q2 q3 => by rw [a2 j m (by omega) (by omega), r9 j m q3]
    have wd : dn R' 0 = 0 := by unfold dn; rw [a3, t_cl (by omega)]
    have hJ' : ∀ k, ¬ (k = 29 ∨ k = 30 ∨ k = 31 ∨ k = 64 ∨ k = 65) → up2 J21 318 29 (nI (0 + 1)) 318 k = J 318 k := fun k hk => by rw [up2_k (by omega), hJf _ _ (by omega), j3 k (by omega)]
    have hlk0 : lkw I A B v nv nr (wn R' 0) 0 = w3 := by rw [lkw_c (w' := fun _ => 0) (fun i hi => absurd hi (by omega)), ew]
    refine ⟨_, R', hbg, Or.inr ⟨h0, up2_s _ _ _ _, ⟨TPr_of hPr (fun _ _ _ _ => rfl) (fun _ _ _ _ => rfl) (fun j m q1 q2 => fr j m (by omega) (by omega) (by omega)), hv, z1, z5, up2_s _ _ _ _, by rw [up2_k (by decide), hJf _ _ (by omega)]; exact j30, by rw [up2_k (by decide), hJf _ _ (by omega)]; exact j31, ⟨by omega, by omega⟩, by omega, fun n hn => ?_, fun n hn => ?_, ⟨fun n hn e => ?_, fun n m m' hn hm hm' e => ?_⟩, ⟨fun n hn => ?_, fun h hh => ?_⟩, fun n hn _ => ?_, ⟨?_, ?_⟩, ⟨fun k hk => absurd hk (by omega), fun m hm e => ?_, fun k k' hk => absurd hk (by omega)⟩⟩, ?_, a7⟩, hJ'⟩
    · obtain rfl : n = 0 := by omega
      refine ⟨⟨by rw [wd]; omega, by rw [wd]; exact a3, fun i hi => absurd hi (by omega), fun i _ hi => by rw [a11 i hi, if_neg (by omega)], ?_, ?_, ?_⟩, Or.inl ⟨rfl, wd, a4⟩⟩
      · rw [a10, wd, e7_c (d := 0) (w := wn R' 0) (w' := fun _ => 0) (fun i hi => absurd hi (by omega))]
      · rw [wd, hlk0]; exact h0
      · rw [wd, hlk0, a5]; exact hJ0 h0
    · obtain rfl : n = 0 := by omega
      rw [a7, a8]
      exact ⟨Or.inl rfl, Or.inl rfl, fun r => absurd r (by decide), fun _ => rfl⟩
    · obtain rfl : n = 0 := by omega
      rw [a7] at e; exact absurd e (by decide)
    · obtain rfl : m = 0 := by omega
      rw [a4] at e; exact absurd e.symm (t_m9 (by omega))
    · obtain rfl : n = 0 := by omega
      exact Or.inl a6
    · rw [fr 335 h (by omega) (by omega) (by omega), fr 337 h (by omega) (by omega) (by omega)]
      exact ⟨(h35 h hh).1, Or.inl (h35 h hh).2⟩
    · obtain rfl : n = 0 := by omega
      refine ⟨fun _ => ?_, fun h hh e => ?_⟩
      · have : pkb R' 0 0 = false := by unfold pkb; rw [a6]; simp
        show cnt (pkb R' 0) 0 + _ ≤ _
        rw [this]
        exact Nat.zero_le _
      · rw [a6] at e; exact absurd e.symm (t_m9 (by omega))
    · show cnt (dnb R') 0 + _ = 0
      have : dnb R' 0 = false := by unfold dnb; rw [a7]; decide
      rw [this]; rfl
    · show cnt (tkb R') 0 + _ = 0
      have : tkb R' 0 = false := by unfold tkb; rw [a8]; decide
      rw [this]; rfl
    · obtain rfl : m = 0 := by omega
      rw [a8] at e; exact absurd e (by decide)
    · have hq : qwk R' 0 = true := by unfold qwk; exact decide_eq_true ⟨a8, Or.inl a4⟩
      show amin (qwk R') (qlt R') [0] none = some 0
      rw [amin, if_pos hq]
      rfl
  · rw [if_neg h0] at hbg
    exact ⟨_, _, hbg, Or.inl ⟨h0, (hJf 318 29 (by omega)).trans j29⟩, fun k hk => by rw [hJf _ _ (by omega), j3 k (by omega)]⟩
end SB
section SC
variable {G : Nat → Nat → Nat} {T p B nv nr z v : Nat} {I0 A0 : Nat → Nat → Int32} {lim : Int32}
theorem t_same_L2 {v9 a1 a2 : Int32} {k42 : Int32 → (Nat → Nat → Int32) → (Nat → Nat → Int32) → (Nat → Nat → Int64) → Option (Int32 × (Nat → Nat → Int32) × (Nat → Nat → Nat) × (Nat → Nat → Int32) × (Nat → Nat → Int64))} : ∀ (k i fu tn hb kn nn dd tk K : Nat) (fb : Nat → Option (Nat × Nat)) (I A : Nat → Nat → Int32) (L : Nat → Nat → Int64) (J R : Nat → Nat → Int32), i + k = 1000000 → k + 1 < fu → tn + k < 1073741824 → hb + k < 1073741824 → tk < 250 → TSv I G A L J R T 8 p B nv nr kn nn dd tk tn hb z 0 fb → MV I0 A0 J R p B v nv nr nn dd tk tn z → M9 R nv tk lim → J 318 24 = lim → (∃ m, nxw R nn = some m ∧ R 344 m = 0) → Pg R tn z K → (300 - dd) * 7 + K ≤ k → ∃ r I' A' L' J' R' kn' nn' dd' tk' tn' hb' fb', f_X6_same_L80 v9 a1 a2 G k42 fu (nI i) 0 I A L = k42 r I' A' L' ∧ TSv I' G A' L' J' R' T 8 p B nv nr kn' nn' dd' tk' tn' hb' z 0 fb' ∧ XT T 8 I A L J R I' A' L' J' R' ∧ MV I0 A0 J' R' p B v nv nr nn' dd' tk' tn' z ∧ Fin9 R' nv nn' tk' lim r ∧ ¬ r = 0 ∧ 0 < nn' := by
  intro k
  induction k with
  | zero =>
    intro i fu tn hb kn nn dd tk K fb I A L J R hi hf h1 h2 h3 hS hM h9 hl hx hK hm
    have := hM.2.2.2.2.2.2.2.1
    omega
  | succ k ih =>
    intro i fu tn hb kn nn dd tk K fb I A L J R hi hf h1 h2 h3 hS hM h9 hl hx hK hm
    obtain ⟨fu, rfl⟩ : ∃ z, fu = z + 1 := ⟨fu - 1, by omega⟩
    obtain ⟨m, hxm, hd⟩ := hx
    have hdd := hM.2.2.2.2.2.2.2.1
    have hK1 : ∃ K0, K = K0 + 1 := by
      rcases hK with ⟨h, _, _, q⟩ | q
      · exact ⟨K - 1, by omega⟩
      · exact ⟨K - 1, by omega⟩
    obtain ⟨K0, rfl⟩ := hK1
    have hnn0 : 0 < nn := by
      obtain ⟨hP, hv, z1, z5, j1, j2, j3, hnn, ht, g2, g3, g4, _⟩ := hM
      have := (nx_l g2 hP hv g3 g4 hxm (by omega)).1
      omega
    obtain ⟨r, I1, A1, L1, J1, R1, J2, R2, kn1, nn1, dd1, tk1, fb1, q1, q2, q3, q4, q5, q6, q7⟩ := t_turn hS h3 (by omega) (by omega)
    obtain ⟨J2', R2', r', J1', R1', nn1', dd1', tk1', p1, p2, p3, p4, p5, p6, p7⟩ := r_trn hM h9 hl h3 hxm hd hK
    have hwho : who R tn 0 z = tn % z := by unfold who; rw [if_neg (by omega)]; rfl
    rw [hwho, p1] at q2
    obtain ⟨rfl, rfl⟩ := Prod.mk.inj (Option.some.inj q2)
    rw [p2] at q3
    obtain ⟨rfl, q33⟩ := Prod.mk.inj (Option.some.inj q3)
    obtain ⟨rfl, rfl⟩ := Prod.mk.inj q33
    -- the same numbers
    obtain ⟨_, _, _, _, mj1, mj2, mj3, mnn, mtk, _⟩ := id p3
    have hTT := q4.1.2.2.2.2.1
    have hTr := q4.1.1
    have nn1b := tt_nn hTr hTT
    have hlT := (tr_l hTr).2.2.2.2.2.2.2.2.2.2.2
    have tk250 := q4.2.2.2.2.2.2.2.2.2.2.2.2
    have dd1b : dd1 < 2147483648 := by
      have a1 := q4.2.2.2.2.2.1
      omega
    obtain rfl : nn1 = nn1' := (t_eq (by omega) (by omega)).mp (hTT.2.2.1.symm.trans mj1)
    obtain rfl : dd1 = dd1' := (t_eq (by omega) (by omega)).mp (q4.1.2.2.2.2.2.2.2.1.symm.trans mj2)
    obtain rfl : tk1 = tk1' := (t_eq (by omega) (by omega)).mp (q4.1.2.2.2.2.2.2.2.2.2.1.symm.trans mj3)
    have hcl : f_X6_same_L80 v9 a1 a2 G k42 (fu + 1) (nI i) 0 I A L = f_X6_same_L80 v9 a1 a2 G k42 fu (nI (i + 1)) r' I1 A1 L1 := by
      rw [f_X6_same_L80, if_pos (show nI i < 1000000 from nI_lt (b := 1000000) (by omega) (by omega)), if_pos rfl, q1, Option.bind_some, nI_1]
    by_cases h0 : r' = 0
    · subst h0
      have hrest : tk1 < 250 ∧ M9 R1' nv tk1 lim ∧ ∃ m, nxw R1' nn1 = some m ∧ R1' 344 m = 0 := by
        rcases p4 with ⟨_, c1, c2, c3⟩ | ⟨c, _⟩ | ⟨_, _, _, _, _, _, ⟨c, _⟩ | ⟨c, _⟩ | ⟨c, _⟩⟩
        · exact ⟨c1, c2, c3⟩
        all_goals exact absurd c (by decide)
      have hrec : ∃ K', Pg R1' (tn + 1) z K' ∧ (300 - dd1) * 7 + K' ≤ k := by
        rcases p7 with e | ⟨e, e2⟩
        · exact ⟨6, Or.inr (by omega), by omega⟩
        · exact ⟨K0, e2, by omega⟩
      obtain ⟨K', hK', hm'⟩ := hrec
      obtain ⟨r, I', A', L', J', R', kn', nn', dd', tk', tn', hb', fb', s1, s2, s3, s4⟩ := ih (i + 1) fu (tn + 1) (hb + 1) kn1 nn1 dd1 tk1 K' fb1 I1 A1 L1 J1' R1' (by omega) (by omega) (by omega) (by omega) hrest.1 q4 p3 hrest.2.1 p5 hrest.2.2 hK' hm'
      exact ⟨r, I', A', L', J', R', kn', nn', dd', tk', tn', hb', fb', hcl.trans s1, s2, XT_tr q5 s3, s4⟩
    · refine ⟨r', I1, A1, L1, J1', R1', kn1, nn1, dd1, tk1, tn + 1, hb + 1, fb1, ?_, q4, q5, p3, p4, h0, by omega⟩
      obtain ⟨fu, rfl⟩ : ∃ z, fu = z + 1 := ⟨fu - 1, by omega⟩
      rw [hcl, f_X6_same_L80]
      by_cases q : nI (i + 1) < 1000000
      · rw [if_pos q, if_neg h0]
      · rw [if_neg q]
end SC
