/-! THE TIE: a tree begins -/
def nw9 (R : Nat → Nat → Int32) (i : Nat) : Nat → Nat → Int32 := fun j m => if j = 364 ∧ m < i then -9 else R j m
theorem r_beg_L {J R : Nat → Nat → Int32} {a1 a2 : Int32} {k7 : (Nat → Nat → Int32) → Option ((Nat → Nat → Int32) × (Nat → Nat → Int32))} : ∀ (k i fu : Nat), i + k = 6 → k < fu → f_X7_begins_L17 a1 a2 J k7 fu (nI i) (nw9 R i) = k7 (nw9 R 6) := by
  intro k
  induction k with
  | zero =>
    intro i fu hi hf
    obtain ⟨fu, rfl⟩ : ∃ z, fu = z + 1 := ⟨fu - 1, by omega⟩
    obtain rfl : i = 6 := by omega
    rw [f_X7_begins_L17, if_neg (by decide)]
  | succ k ih =>
    intro i fu hi hf
    obtain ⟨fu, rfl⟩ : ∃ z, fu = z + 1 := ⟨fu - 1, by omega⟩
    have e2 : up2 (nw9 R i) 364 i (-9) = nw9 R (i + 1) := by
      funext j m
      unfold up2 nw9
      by_cases h : j = 364 ∧ m = i
      · rw [if_pos h, if_pos ⟨h.1, by omega⟩]
      · rw [if_neg h]
        by_cases h2 : j = 364 ∧ m < i
        · rw [if_pos h2, if_pos ⟨h2.1, by omega⟩]
        · rw [if_neg h2, if_neg (fun q => by
            rcases Nat.lt_or_ge m i with r | r
            · exact h2 ⟨q.1, r⟩
            · exact h ⟨q.1, by omega⟩)]
    rw [f_X7_begins_L17, if_pos (show nI i < 6 from nI_lt (b := 6) (by omega) (by omega))]
    simp (disch := omega) only [bd, gd_in, t_cl, e2, nI_1]
    exact ih (i + 1) fu (by omega) (by omega)
/-- what a beginning leaves as it was -/
def XB (T : Nat) (I A : Nat → Nat → Int32) (L : Nat → Nat → Int64) (J R I' A' : Nat → Nat → Int32) (L' : Nat → Nat → Int64) (J' R' : Nat → Nat → Int32) : Prop :=
  (∀ j k, j ≠ T → j ≠ T + 11 → I' j k = I j k) ∧ (∀ j m, (j < T + 2 ∨ T + 8 < j) → j ≠ T + 10 → A' j m = A j m) ∧ (∀ j m, j ≠ T + 1 → L' j m = L j m) ∧ (∀ j k, ¬ (j = 318 ∧ (k = 29 ∨ k = 30 ∨ k = 31 ∨ k = 64 ∨ k = 65)) → J' j k = J j k) ∧ (∀ j m, (j < 338 ∨ j = 346 ∨ j = 347 ∨ j = 348 ∨ 349 < j) → j ≠ 364 → R' j m = R j m)
section PL
variable {I A : Nat → Nat → Int32} {L : Nat → Nat → Int64} {J R : Nat → Nat → Int32} {T B p nv nr : Nat} {mt : Int32} {sv : Prop} {G : Nat → Nat → Nat}
set_option maxHeartbeats 1000000 in
theorem t_plant (hT : TrAt T) (hPr : TPr I A R p B nv nr) (hmt : mt = 0 ∨ mt = 1) : ∃ I' A' L' J' R' nn, f_X5_plant I G A L T B mt = some (I', up2 G T 14 B, A', L') ∧ f_X7_begins J R (nI p) mt = some (J', R') ∧ TT I' A' L' J' R' T B nv 1 nn sv (fun _ => none) (fun a => ¬ R' 345 a = 0) (fun _ => False) ∧ ((nn = 0 ∧ ¬ A' (T + 3) 0 = 0) ∨ (nn = 1 ∧ A' (T + 3) 0 = 0)) ∧ FC A' R' B nv nn (fun _ => none) ∧ (∀ n, n < nn → R' 344 n = 0 ∧ R' 345 n = 0 ∧ R' 343 n = -9) ∧ I' T 10 = nI 0 ∧ J' 318 30 = nI 0 ∧ I' T 11 = nI 0 ∧ J' 318 31 = nI 0 ∧ I' T 15 = mt ∧ TPr I' A' R' p B nv nr ∧ XB T I A L J R I' A' L' J' R' := by
  have hBat := tp_at hPr
  have hB58 := pr_ge hBat
  have hB := hPr.2.1
  have hp := hPr.1
  have hT58 := (tr_o hT).1
  have hnv := hPr.2.2.1.1
  have hnr := hPr.2.2.1.2.1
  have hlT := (tr_l hT).2.2.2.2.2.2.2.2.2.2
  obtain ⟨g0, g1, g2, g3, g4, g5, g6, g7, g8, g9, g10, g11⟩ := tgd hT
  -- both sides before the judgement
  obtain ⟨I7, eI7⟩ : ∃ z, z = up2 (up2 (up2 (up2 I T 15 mt) T 9 0) T 10 0) T 11 0 := ⟨_, rfl⟩
  have i7 : ∀ j k, j ≠ T → I7 j k = I j k := fun j k q => by rw [eI7, up2_j q, up2_j q, up2_j q, up2_j q]
  have i79 : I7 T 9 = nI 0 := by rw [eI7, up2_k (by decide), up2_k (by decide), up2_s]; rfl
  have i710 : I7 T 10 = nI 0 := by rw [eI7, up2_k (by decide), up2_s]; rfl
  have i711 : I7 T 11 = nI 0 := by rw [eI7, up2_s]; rfl
  have i715 : I7 T 15 = mt := by rw [eI7, up2_k (by decide), up2_k (by decide), up2_k (by decide), up2_s]
  have hfill := t_fill (A := A) (w := -1) (vsl_at hT) (by omega) (by omega)
  obtain ⟨A8, e8'⟩ : ∃ z, z = fil A (T + 10) 6 (-1) := ⟨_, rfl⟩
  rw [← e8'] at hfill
  have a8 : ∀ j m, j ≠ T + 10 → A8 j m = A j m := fun j m q => by rw [e8', fil_j q]
  have a810 : ∀ i, i < 6 → A8 (T + 10) i = -1 := fun i hi => by rw [e8']; unfold fil; rw [if_pos ⟨rfl, hi⟩]
  have r9 : ∀ j m, j ≠ 364 → nw9 R 6 j m = R j m := fun j m q => by unfold nw9; rw [if_neg (fun r => q r.1)]
  have r94 : ∀ i, i < 6 → nw9 R 6 364 i = -9 := fun i hi => by unfold nw9; rw [if_pos ⟨rfl, hi⟩]
  have hPr2 : TPr I7 A8 (nw9 R 6) p B nv nr := TPr_of hPr (fun j k h1 h2 => i7 j k (by omega)) (fun j k h1 h2 => a8 j k (by omega)) (fun j k h1 h2 => r9 j k (by omega))
  have hro : TRo A8 (nw9 R 6) (T + 10) := fun i hi => Or.inl ⟨a810 i hi, r94 i hi⟩
  have hRoW : RoW A8 B (T + 10) 0 := ⟨fun i hi => by omega, fun i _ hi => a810 i hi⟩
  obtain ⟨J3, e3⟩ : ∃ z, z = up2 (up2 (up2 J 318 29 0) 318 30 0) 318 31 0 := ⟨_, rfl⟩
  have j3 : ∀ j k, ¬ (j = 318 ∧ (k = 29 ∨ k = 30 ∨ k = 31)) → J3 j k = J j k := fun j k q => by
    rw [e3]; unfold up2
    rw [if_neg (fun r => q ⟨r.1, by omega⟩), if_neg (fun r => q ⟨r.1, by omega⟩), if_neg (fun r => q ⟨r.1, by omega⟩)]
  have j29 : J3 318 29 = nI 0 := by rw [e3, up2_k (by decide), up2_k (by decide), up2_s]; rfl
  have j30 : J3 318 30 = nI 0 := by rw [e3, up2_k (by decide), up2_s]; rfl
  have j31 : J3 318 31 = nI 0 := by rw [e3, up2_s]; rfl
  obtain ⟨J21, hwh, hJf, hJ0, hJ1⟩ := r_whatIs (J := J3) (mt := mt) hPr2 hro (by omega) hRoW (Nat.zero_le nv)
  have hlk := t_look (o := T + 11) (mt := mt) hPr2 (ju_at hT) (vsl_at hT) (by omega) (Nat.zero_le nv) hRoW
  have hlr := lk_r (I := I7) (A := A8) (B := B) (v := T + 10) (nv := nv) (nr := nr) (d := 0) (mt := mt) hnv hnr (by omega)
  generalize lk I7 A8 B (T + 10) nv nr 0 mt = w3 at hwh hJ0 hJ1 hlk hlr
  have eI9 : jdI I7 (T + 11) w3 T 9 = nI 0 := by unfold jdI; rw [up2_j (by omega), up2_j (by omega), up2_j (by omega)]; exact i79
  have eI0 : jdI I7 (T + 11) w3 (T + 11) 0 = w3.1 := by unfold jdI; rw [up2_k (by decide), up2_k (by decide), up2_s]
  have eI1 : jdI I7 (T + 11) w3 (T + 11) 1 = w3.2.1 := by unfold jdI; rw [up2_k (by decide), up2_s]
  have eI2 : jdI I7 (T + 11) w3 (T + 11) 2 = w3.2.2 := by unfold jdI; rw [up2_s]
  have eIo : ∀ k, jdI I7 (T + 11) w3 T k = I7 T k := fun k => by unfold jdI; rw [up2_j (by omega), up2_j (by omega), up2_j (by omega)]
  obtain ⟨A14, hadd, hAf, b2, b3, b4, b5, b6, b7, b8⟩ := t_add (A := A8) (L := L) (kn := 0) (dp := 0) (row := 0) hT eI9 (by omega) (by omega) (by
      rw [eI0]
      rcases hlr with ⟨q, _⟩ | ⟨⟨x, _, hx, q⟩, _⟩
      · exact ⟨0, by omega, q⟩
      · exact ⟨x, by omega, q⟩) (by
      rw [eI1]
      rcases hlr with ⟨_, q⟩ | ⟨_, x, hx, q⟩
      · exact Or.inl q
      · exact Or.inr ⟨x, hx, q⟩)
  rw [eI2] at hadd
  rw [eI0] at b3
  rw [eI1] at b4
  obtain ⟨A', eA⟩ : ∃ z, z = up2 A14 (T + 8) 0 1 := ⟨_, rfl⟩
  have hA : ∀ j m, (j < T + 2 ∨ T + 8 < j) → j ≠ T + 10 → A' j m = A j m := fun j m q1 q2 => by
    rw [eA, up2_j (by omega), hAf j m (fun q => by omega)]; exact a8 j m q2
  have hA0 : ∀ j, j ≠ T + 8 → A' j 0 = A14 j 0 := fun j q => by rw [eA, up2_j q]
  have hcl : f_X5_plant I G A L T B mt = some (up2 (jdI I7 (T + 11) w3) T 9 (nI 1), up2 G T 14 B, A', up2 L (T + 1) 0 (plc w3.2.2 0)) := by
    have i8 := (ti hT (show 0 < lT T by omega)).2.2.2.2.2.2.2
    have hlk : f_X0_look I7 A8 (T + 11) B (T + 10) 0 mt = _ := hlk
    have hadd : f_X5_addJudged (jdI I7 (T + 11) w3) A8 L T 0 0 = _ := hadd
    simp only [f_X5_plant, gd_t g0, bd, gd_t hmt]
    rw [← eI7, hfill, Option.bind_some, gd_t g11, up2_s, i715, hlk, Option.bind_some, hadd, Option.bind_some]
    simp only [gd_t g8]
    rw [gd_t (show inr 0 (ln (T + 8)) from i8), nz_1, ← eA]
  have hb : f_X7_begins J R (nI p) mt = if w3.1 = 0 then (Option.bind (f_X7_addNode J21 (nw9 R 6) 0 (-9)) fun (I14, A15) => some (I14, A15)) else some (J21, nw9 R 6) := by
    have hL := r_beg_L (J := J3) (R := R) (a1 := nI p) (a2 := mt) (k7 := fun (A8 : Nat → Nat → Int32) => Option.bind (f_X7_whatIs J3 A8 (nI p) 0 mt) fun (r9, I10, A11) => if r9 = 0 then (Option.bind (f_X7_addNode I10 A11 0 (-9)) fun (I14, A15) => some (I14, A15)) else (some (I10, A11))) 6 0 FU (by omega) (t_fu _ (by omega))
    have e0 : nw9 R 0 = R := by funext j m; unfold nw9; rw [if_neg (fun q => by omega)]
    rw [e0] at hL
    have hwh : f_X7_whatIs J3 (nw9 R 6) (nI p) 0 mt = _ := hwh
    rw [hwh, Option.bind_some] at hL
    simp only [f_X7_begins, bd]
    rw [← e3]
    exact hL
  have hJn : ∀ j k, ¬ (j = 318 ∧ (k = 29 ∨ k = 30 ∨ k = 31 ∨ k = 64 ∨ k = 65)) → J21 j k = J j k := fun j k q => (hJf j k (fun r => q ⟨r.1, by omega⟩)).trans (j3 j k (fun r => q ⟨r.1, by omega⟩))
  have hI' : ∀ j k, j ≠ T → j ≠ T + 11 → up2 (jdI I7 (T + 11) w3) T 9 (nI 1) j k = I j k := fun j k h1 h2 => by
    rw [up2_j h1]; unfold jdI; rw [up2_j h2, up2_j h2, up2_j h2]; exact i7 j k h1
  have hIT : ∀ k, k ≠ 9 → up2 (jdI I7 (T + 11) w3) T 9 (nI 1) T k = I7 T k := fun k h => by rw [up2_k h]; exact eIo k
  have hL' : ∀ j m, j ≠ T + 1 → up2 L (T + 1) 0 (plc w3.2.2 0) j m = L j m := fun j m h => up2_j h
  have hPrF : ∀ R' : Nat → Nat → Int32, (∀ j m, 319 ≤ j → j ≤ 328 → R' j m = R j m) → TPr (up2 (jdI I7 (T + 11) w3) T 9 (nI 1)) A' R' p B nv nr := fun R' h => TPr_of hPr (fun j k h1 h2 => hI' j k (by omega) (by omega)) (fun j k h1 h2 => hA j k (by omega) (by omega)) h
  have hosS := os_s A' T 0
  rw [hA0 _ (by omega), b3] at hosS
  by_cases h0 : w3.1 = 0
  · rw [if_pos h0] at hb hosS
    obtain ⟨R31, hra, ra0, ra1, ra2, ra3, ra4, ra5, ra6, ra7, ra8, ra9⟩ := r_add (J := J21) (R := nw9 R 6) (nn := 0) (d := 0) (w := fun _ => 0) (a2 := -9) ((hJf 318 29 (fun q => by omega)).trans j29) (by omega) (by omega) (fun i hi => by omega)
    have hra : f_X7_addNode J21 (nw9 R 6) 0 (-9) = _ := hra
    rw [hra, Option.bind_some] at hb
    dsimp only at hb
    have hos1 : os A' T 1 = [0] := hosS
    have hfi0 : fi A' T 1 0 = 0 := by unfold fi; rw [hos1]; rfl
    have hdn : dn R31 0 = 0 := by unfold dn; rw [ra1]; exact t_cl (by omega)
    refine ⟨_, A', _, _, R31, 1, hcl, hb, ⟨by rw [hos1]; rfl, up2_s _ _ _ _, up2_s _ _ _ _, by omega, hnv, fun n hn => ?_⟩, Or.inr ⟨rfl, by rw [hA0 _ (by omega), b3]; exact h0⟩, ⟨fun _ _ => rfl, fun n hn => Or.inl ⟨rfl, fun q => ?_⟩⟩, fun n hn => ?_, by rw [hIT _ (by decide)]; exact i710, by rw [up2_k (by decide), hJf 318 30 (fun q => by omega)]; exact j30, by rw [hIT _ (by decide)]; exact i711, by rw [up2_k (by decide), hJf 318 31 (fun q => by omega)]; exact j31, by rw [hIT _ (by decide)]; exact i715, hPrF R31 (fun j m h1 h2 => (ra0 j m (fun q => by omega) (fun q => by omega)).trans (r9 j m (by omega))), hI', hA, hL', fun j k q => by unfold up2; rw [if_neg (fun r => q ⟨r.1, by omega⟩)]; exact hJn j k q, fun j m h1 h2 => (ra0 j m (fun q => by omega) (fun q => by omega)).trans (r9 j m h2)⟩
    · obtain rfl : n = 0 := by omega
      rw [hfi0]
      refine ⟨⟨by rw [hdn]; omega, by rw [hdn]; exact ra1, by rw [hdn, hA0 _ (by omega)]; exact b2, fun i hi => by rw [hdn] at hi; omega, fun i _ hi => by rw [ra9 i hi, if_neg (by omega)], ?_, ?_⟩, fun _ => ?_, ?_, ?_⟩
      · have ez : e8 (wn R31 0) 0 = 0 := by simp [e8, dg]
        rw [up2_s, hdn, ra3, hJ0 h0, ez, show lN 0 = (0 : Int64) by decide]
      · have ez : e7 (wn R31 0) 0 = e7 (fun _ => 0) 0 := by simp [e7, dg]
        rw [hdn, ra8, ez]
      · unfold TNd stg
        rw [hA0 _ (by omega), ra4, ra5, ra6, b5, if_pos rfl, if_pos rfl, if_pos rfl]
        exact ⟨rfl, Or.inl rfl, Or.inl rfl, fun q => absurd q z01, fun _ => ⟨Or.inl rfl, fun q => absurd q z01⟩⟩
      · exact Or.inl ⟨ra2, by rw [eA, up2_s]⟩
      · refine Or.inl ⟨rfl, by rw [hA0 _ (by omega)]; exact b7, ra7, fun m hm => ?_⟩
        obtain rfl : m = 0 := by omega
        rw [ra2]; exact fun r => t_m9 (n := 0) (by omega) r.symm
    · obtain rfl : n = 0 := by omega
      rw [ra5] at q; exact absurd q.1 z01
    · obtain rfl : n = 0 := by omega
      exact ⟨ra5, ra6, ra4⟩
  · rw [if_neg h0] at hb hosS
    have hos1 : os A' T 1 = [] := hosS
    refine ⟨_, A', _, J21, nw9 R 6, 0, hcl, hb, ⟨by rw [hos1]; rfl, up2_s _ _ _ _, (hJf 318 29 (fun q => by omega)).trans j29, by omega, hnv, fun n hn => by omega⟩, Or.inl ⟨rfl, by rw [hA0 _ (by omega), b3]; exact h0⟩, ⟨fun _ _ => rfl, fun n hn => by omega⟩, fun n hn => by omega, by rw [hIT _ (by decide)]; exact i710, (hJf 318 30 (fun q => by omega)).trans j30, by rw [hIT _ (by decide)]; exact i711, (hJf 318 31 (fun q => by omega)).trans j31, by rw [hIT _ (by decide)]; exact i715, hPrF _ (fun j m h1 h2 => r9 j m (by omega)), hI', hA, hL', hJn, fun j m h1 h2 => r9 j m h2⟩
end PL
