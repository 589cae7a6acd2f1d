/-! THE TIE: a solving ends: what is told of it -/
/-- the bound of a node, or none -/
def bno (R : Nat → Nat → Int32) : Option Nat → Int32
  | none => -1000000
  | some n => R 341 n
section EN
variable {I A : Nat → Nat → Int32} {L : Nat → Nat → Int64} {J R : Nat → Nat → Int32} {T p B nv nr kn nn dd tk : Nat} {mt : Int32} {sv : Prop} {fb : Nat → Option (Nat × Nat)} {G : Nat → Nat → Nat}
theorem t_bound {c n : Nat} (hT : TrAt T) (hc : c < lT T) (h : TNs A L R T B nv n c) : f_X5_boundOf L T (nI c) = some (R 341 n) := by
  obtain ⟨g0, g1, g2, g3, g4, g5, g6, g7, g8, g9, g10, g11⟩ := tgd hT
  obtain ⟨i1, _⟩ := ti hT hc
  have hl := (tr_l hT).2.2.2.2.2.2.2.2.2.2.2
  unfold f_X5_boundOf
  rw [gd_t g0, gd_t g1, gd_t i1, t_cl (by omega), h.2.2.2.2.2.1]
  exact congrArg some (bdo_plc _ (e8_lt (ns_6 h)))
theorem t_sumUp {s2 : Nat} {r : Int32} (h : TSw I G A L J R T p B nv nr kn nn dd tk mt sv fb) (hGT : G 14 0 = T) (hs : IA s2 12) (h318 : s2 < 318) (hsT : s2 < T ∨ T + 11 < s2) (ht : tk ≤ 250) : ∃ A', f_X3_sumUp I G A L r s2 = some A' ∧ (∀ j m, j ≠ s2 → A' j m = A j m) ∧ A' s2 0 = r ∧ A' s2 1 = nI tk ∧ A' s2 2 = nI dd ∧ A' s2 3 = I 14 3 ∧ ((r = 1 ∧ 0 < tk ∧ ∃ m, m < nn ∧ R 346 (tk - 1) = nI m ∧ A' s2 4 = R 341 m ∧ A' s2 5 = R 341 m ∧ ∀ v, v < 6 → A' s2 (6 + v) = R 339 (6 * m + v)) ∨ (¬ (r = 1 ∧ 0 < tk) ∧ A' s2 4 = -1000000 ∧ A' s2 5 = (bno R (nxw R nn)) ∧ ∀ v, v < 6 → A' s2 (6 + v) = -9)) := by
  obtain ⟨hT, hG, hPr, hmt, hX, hF, hd1, hd2, ht1, ht2, hw⟩ := h
  have hT58 := (tr_o hT).1
  have hlT := (tr_l hT).2.2.2.2.2.2.2.2.2.2.2
  have hknl := hX.2.2.2.1
  have hnv := hPr.2.2.1.1
  obtain ⟨g0, g1, g2, g3, g4, g5, g6, g7, g8, g9, g10, g11⟩ := tgd hT
  have hl : ln s2 = 12 := hs.2.2
  have hk8 : s2 < 318 ∧ kd s2 = 8 := ⟨h318, hs.2.1⟩
  have hfill := t_fill (A := A) (w := -9) hs h318 (by omega)
  have i0 : inr 0 12 := t_in (k := 0) (by omega) (by omega)
  have i1 : inr 1 12 := t_in (k := 1) (by omega) (by omega)
  have i2 : inr 2 12 := t_in (k := 2) (by omega) (by omega)
  have i3 : inr 3 12 := t_in (k := 3) (by omega) (by omega)
  have i4 : inr 4 12 := t_in (k := 4) (by omega) (by omega)
  have i5 : inr 5 12 := t_in (k := 5) (by omega) (by omega)
  -- the numbers
  have hnum : ∀ (x y : Int32), ∃ A6, A6 = up2 (up2 (up2 (up2 (up2 (up2 (fil A s2 12 (-9)) s2 0 r) s2 1 (nI tk)) s2 2 (nI dd)) s2 3 (I 14 3)) s2 4 x) s2 5 y ∧ (∀ j m, j ≠ s2 → A6 j m = A j m) ∧ A6 s2 0 = r ∧ A6 s2 1 = nI tk ∧ A6 s2 2 = nI dd ∧ A6 s2 3 = I 14 3 ∧ A6 s2 4 = x ∧ A6 s2 5 = y ∧ ∀ v, v < 6 → A6 s2 (6 + v) = -9 := fun x y => by
    refine ⟨_, rfl, fun j m q => by rw [up2_j q, up2_j q, up2_j q, up2_j q, up2_j q, up2_j q, fil_j q], ?_, ?_, ?_, ?_, ?_, ?_, fun v hv => ?_⟩
    · rw [up2_k (by decide), up2_k (by decide), up2_k (by decide), up2_k (by decide), up2_k (by decide), up2_s]
    · rw [up2_k (by decide), up2_k (by decide), up2_k (by decide), up2_k (by decide), up2_s]
    · rw [up2_k (by decide), up2_k (by decide), up2_k (by decide), up2_s]
    · rw [up2_k (by decide), up2_k (by decide), up2_s]
    · rw [up2_k (by decide), up2_s]
    · rw [up2_s]
    · rw [up2_k (by omega), up2_k (by omega), up2_k (by omega), up2_k (by omega), up2_k (by omega), up2_k (by omega)]
      unfold fil; rw [if_pos ⟨rfl, by omega⟩]
  by_cases hf : r = 1 ∧ 0 < tk
  · obtain ⟨hr1, htk⟩ := hf
    obtain ⟨m, m1, m2, m3, m4⟩ := hw (tk - 1) (by omega)
    obtain ⟨s1, _⟩ := hX.2.2.2.2.2 m m1
    have hc := (fi_mem (A := A) (T := T) (kn := kn) (n := m) (by rw [hX.1]; exact m1)).1
    have hbo := t_bound (n := m) hT (show fi A T kn m < lT T by omega) s1
    obtain ⟨A6, e6, n0, n1, n2, n3, n4, n5, n6, n7⟩ := hnum (R 341 m) (R 341 m)
    have hcp := t_copy (A := A6) (L := L) (f := 6) (dd := dn R m) hT (show fi A T kn m < lT T by omega) hs (by have := s1.1; omega) (by omega) (by omega) h318 (by rw [n0 _ _ (by omega)]; exact s1.2.2.1)
    refine ⟨cpy A6 s2 6 (dn R m) (L (T + 1) (fi A T kn m)), ?_, fun j x q => by rw [cpy_j q]; exact n0 j x q, ?_, ?_, ?_, ?_, Or.inl ⟨hr1, htk, m, m1, m2, ?_, ?_, fun v hv => ?_⟩⟩
    · have hpos : (0 : Int32) < nI tk := nI_lt (a := 0) htk (by omega)
      have hcp : f_X5_copyValues A6 L T (nI (fi A T kn m)) s2 6 = _ := hcp
      simp (disch := omega) only [f_X3_sumUp, hGT, gd_t g0, gd_t g9, (tr_l hT).2.2.2.2.2.2.2.2.1, ht1, nI_s1, gd_in, t_cl, m4, bd, hr1, if_true, if_pos hpos, z10, if_false, if_neg (t_m1 (show fi A T kn m < 2147483648 by omega)), hbo, Option.bind_some, hfill, gd_t hk8, hl, gd_t i0, gd_t i1, gd_t i2, gd_t i3, gd_t i4, gd_t i5, hd1]
      rw [hr1] at e6
      rw [← e6, hcp, Option.bind_some]
    · unfold cpy; rw [if_neg (fun q => by omega)]; exact n1
    · unfold cpy; rw [if_neg (fun q => by omega)]; exact n2
    · unfold cpy; rw [if_neg (fun q => by omega)]; exact n3
    · unfold cpy; rw [if_neg (fun q => by omega)]; exact n4
    · unfold cpy; rw [if_neg (fun q => by omega)]; exact n5
    · unfold cpy; rw [if_neg (fun q => by omega)]; exact n6
    · unfold cpy
      by_cases hvd : v < dn R m
      · rw [if_pos ⟨rfl, by omega, by omega⟩, show 6 + v - 6 = v by omega, s1.2.2.2.2.2.1, vlo_e8 _ (ns_6 s1) hvd hv]
        exact ((s1.2.2.2.1 v hvd).1).symm
      · rw [if_neg (fun q => by omega), n7 v hv, s1.2.2.2.2.1 v (by omega) hv]
  · obtain ⟨A6, e6, n0, n1, n2, n3, n4, n5, n6, n7⟩ := hnum (-1000000) (bno R (nxw R nn))
    refine ⟨A6, ?_, n0, n1, n2, n3, n4, Or.inr ⟨hf, n5, n6, n7⟩⟩
    have hz : f_X3_sumUp I G A L r s2 = (bd (fun (z11 : Int32) => bd (fun (z16 : Int32) => some (up2 (up2 (up2 (up2 (up2 (up2 (fil A s2 12 (-9)) s2 0 r) s2 1 (nI tk)) s2 2 (nI dd)) s2 3 (I 14 3)) s2 4 (-1000000)) s2 5 z16)) fun j17 => if z11 = (-1) then (j17 (-1000000)) else (Option.bind (f_X5_boundOf L T z11) fun r47 => j17 r47)) fun j12 => Option.bind (f_X5_nextOfWalk I A L T) fun r51 => j12 r51) := by
      by_cases hr1 : r = 1
      · have hpos : ¬ (0 : Int32) < nI tk := fun q => hf ⟨hr1, by have := (t_lt (a := 0) (b := tk) (by omega) (by omega)).mp q; exact this⟩
        simp only [f_X3_sumUp, hGT, gd_t g0, ht1, bd, if_pos hr1, if_neg hpos, if_true, hfill, Option.bind_some, gd_t hk8, hl, gd_t i0, gd_t i1, gd_t i2, gd_t i3, gd_t i4, gd_t i5, hd1]
      · simp only [f_X3_sumUp, hGT, gd_t g0, ht1, bd, if_neg hr1, if_true, hfill, Option.bind_some, gd_t hk8, hl, gd_t i0, gd_t i1, gd_t i2, gd_t i3, gd_t i4, gd_t i5, hd1]
    rw [hz, (t_nxw hX hT).1]
    simp only [bd, Option.bind_some]
    cases hnx : nxw R nn with
    | none =>
      rw [hnx] at e6
      rw [if_pos (show enc (-1) (Option.map (fi A T kn) none) = -1 from rfl), e6]
      rfl
    | some n =>
      rw [hnx] at e6
      obtain ⟨o1, o2, o3⟩ := nxw_o hnx
      obtain ⟨s1, _⟩ := hX.2.2.2.2.2 n o1
      have hc := (fi_mem (A := A) (T := T) (kn := kn) (n := n) (by rw [hX.1]; exact o1)).1
      have hbo := t_bound (n := n) hT (show fi A T kn n < lT T by omega) s1
      have e1 : enc (-1) (Option.map (fi A T kn) (some n)) = nI (fi A T kn n) := rfl
      rw [e1, if_neg (t_m1 (by omega)), hbo, Option.bind_some, e6]
      rfl
end EN
/-! the reference's part -/
/-- the answer's row, up to i -/
def anr (R : Nat → Nat → Int32) (p m i : Nat) : Nat → Nat → Int32 := fun j x => if j = 353 ∧ 6 * p ≤ x ∧ x < 6 * p + i then R 339 (6 * m + (x - 6 * p)) else R j x
theorem r_ans_L {J R : Nat → Nat → Int32} {p m : Nat} {k78 : (Nat → Nat → Int32) → Option ((Nat → Nat → Int32) × (Nat → Nat → Int32))} (hp : p < 5) (hm : m < 2000) : ∀ (k i fu : Nat), i + k = 6 → k < fu → f_X7_endsAs_L187 (nI m) (nI p) J k78 fu (nI i) (anr R p m i) = k78 (anr R p m 6) := by
  intro k
  induction k with
  | zero =>
    intro i fu hi hf
    obtain ⟨fu, rfl⟩ : ∃ z, fu = z + 1 := ⟨fu - 1, by omega⟩
    obtain rfl : i = 6 := by omega
    rw [f_X7_endsAs_L187, if_neg (by decide)]
  | succ k ih =>
    intro i fu hi hf
    obtain ⟨fu, rfl⟩ : ∃ z, fu = z + 1 := ⟨fu - 1, by omega⟩
    have e1 : anr R p m i 339 (6 * m + i) = R 339 (6 * m + i) := by unfold anr; rw [if_neg (fun q => by omega)]
    have e2 : up2 (anr R p m i) 353 (6 * p + i) (R 339 (6 * m + i)) = anr R p m (i + 1) := by
      funext j x
      unfold up2 anr
      by_cases h : j = 353 ∧ x = 6 * p + i
      · rw [if_pos h, if_pos ⟨h.1, by omega, by omega⟩, h.2]; congr 1; omega
      · rw [if_neg h]
        by_cases h2 : j = 353 ∧ 6 * p ≤ x ∧ x < 6 * p + i
        · rw [if_pos h2, if_pos ⟨h2.1, h2.2.1, by omega⟩]
        · rw [if_neg h2, if_neg (fun q => by
            rcases Nat.lt_or_ge x (6 * p + i) with r | r
            · exact h2 ⟨q.1, q.2.1, r⟩
            · exact h ⟨q.1, by omega⟩)]
    rw [f_X7_endsAs_L187, if_pos (show nI i < 6 from nI_lt (b := 6) (by omega) (by omega))]
    simp (disch := omega) only [bd, gd_in, t_cl, m6, e1, e2, nI_1]
    exact ih (i + 1) fu (by omega) (by omega)
/-- what is told of the nodes that the walk took, up to i -/
def WKd (R0 R : Nat → Nat → Int32) (p nv i : Nat) : Prop := (∀ j x, (j < 354 ∨ 361 < j) → R j x = R0 j x) ∧ ∀ x n, x < i → R0 346 x = nI n → n < 2000 → R 354 x = R0 338 n ∧ R 356 x = R0 341 n ∧ R 357 x = R0 343 n ∧ R 358 x = R0 349 n ∧ R 359 x = (if dn R0 n < nv then R0 321 (6 * p + dn R0 n) else 0) ∧ ∀ v, v < 6 → R 355 (6 * x + v) = R0 339 (6 * n + v) ∧ R 360 (6 * x + v) = R0 347 (6 * n + v) ∧ R 361 (6 * x + v) = R0 348 (6 * n + v)
def WKe (R0 R : Nat → Nat → Int32) (p nv i : Nat) : Prop := ∀ x n, x < i → R0 346 x = nI n → n < 2000 → R 354 x = R0 338 n ∧ R 356 x = R0 341 n ∧ R 357 x = R0 343 n ∧ R 358 x = R0 349 n ∧ R 359 x = (if dn R0 n < nv then R0 321 (6 * p + dn R0 n) else 0) ∧ ∀ v, v < 6 → R 355 (6 * x + v) = R0 339 (6 * n + v) ∧ R 360 (6 * x + v) = R0 347 (6 * n + v) ∧ R 361 (6 * x + v) = R0 348 (6 * n + v)
theorem r_wrow_L {J R0 : Nat → Nat → Int32} {a1 : Int32} {i n : Nat} {k64 : (Nat → Nat → Int32) → Option ((Nat → Nat → Int32) × (Nat → Nat → Int32))} (hi : i < 250) (hn : n < 2000) : ∀ (k v fu : Nat) (R : Nat → Nat → Int32), v + k = 6 → k < fu → (∀ j x, j = 339 ∨ j = 347 ∨ j = 348 → R j x = R0 j x) → ∃ R', f_X7_endsAs_L357 (nI i) a1 J k64 fu (nI v) (nI n) R = k64 R' ∧ (∀ j x, ¬ ((j = 355 ∨ j = 360 ∨ j = 361) ∧ 6 * i + v ≤ x ∧ x < 6 * i + 6) → R' j x = R j x) ∧ ∀ u, v ≤ u → u < 6 → R' 355 (6 * i + u) = R0 339 (6 * n + u) ∧ R' 360 (6 * i + u) = R0 347 (6 * n + u) ∧ R' 361 (6 * i + u) = R0 348 (6 * n + u) := by
  intro k
  induction k with
  | zero =>
    intro v fu R hv hf hR
    obtain ⟨fu, rfl⟩ : ∃ z, fu = z + 1 := ⟨fu - 1, by omega⟩
    obtain rfl : v = 6 := by omega
    exact ⟨R, by rw [f_X7_endsAs_L357, if_neg (by decide)], fun _ _ _ => rfl, fun u h1 h2 => by omega⟩
  | succ k ih =>
    intro v fu R hv hf hR
    obtain ⟨fu, rfl⟩ : ∃ z, fu = z + 1 := ⟨fu - 1, by omega⟩
    obtain ⟨R1, e1⟩ : ∃ z, z = up2 (up2 (up2 R 355 (6 * i + v) (R0 339 (6 * n + v))) 360 (6 * i + v) (R0 347 (6 * n + v))) 361 (6 * i + v) (R0 348 (6 * n + v)) := ⟨_, rfl⟩
    have hR1 : ∀ j x, ¬ ((j = 355 ∨ j = 360 ∨ j = 361) ∧ x = 6 * i + v) → R1 j x = R j x := fun j x q => by
      rw [e1]; unfold up2
      rw [if_neg (fun r => q ⟨by omega, r.2⟩), if_neg (fun r => q ⟨by omega, r.2⟩), if_neg (fun r => q ⟨by omega, r.2⟩)]
    obtain ⟨R', q1, q2, q3⟩ := ih (v + 1) fu R1 (by omega) (by omega) (fun j x h => (hR1 j x (fun q => by omega)).trans (hR j x h))
    refine ⟨R', ?_, fun j x h => (q2 j x (fun q => h ⟨q.1, by omega, q.2.2⟩)).trans (hR1 j x (fun q => h ⟨q.1, by omega, by omega⟩)), fun u h1 h2 => ?_⟩
    · rw [f_X7_endsAs_L357, if_pos (show nI v < 6 from nI_lt (b := 6) (by omega) (by omega))]
      simp (disch := omega) only [bd, gd_in, t_cl, m6, nI_1, hR 339 _ (Or.inl rfl), up2_j (show (347 : Nat) ≠ 355 by decide), up2_j (show (348 : Nat) ≠ 360 by decide), up2_j (show (348 : Nat) ≠ 355 by decide), hR 347 _ (Or.inr (Or.inl rfl)), hR 348 _ (Or.inr (Or.inr rfl))]
      rw [← e1]
      exact q1
    · by_cases huv : u = v
      · subst huv
        rw [q2 355 _ (fun q => by omega), q2 360 _ (fun q => by omega), q2 361 _ (fun q => by omega), e1]
        refine ⟨?_, ?_, ?_⟩
        · rw [up2_j (by decide), up2_j (by decide), up2_s]
        · rw [up2_j (by decide), up2_s]
        · rw [up2_s]
      · exact q3 u (by omega) h2
theorem r_wk_L {J R0 : Nat → Nat → Int32} {p nv tk : Nat} {k46 : (Nat → Nat → Int32) → Option ((Nat → Nat → Int32) × (Nat → Nat → Int32))} (hp : p < 5) (hJ : J 318 31 = nI tk) (ht : tk ≤ 250) (hnv : nv ≤ 6) (h319 : R0 319 p = nI nv) (hw : ∀ x, x < tk → ∃ n, n < 2000 ∧ R0 346 x = nI n ∧ R0 338 n = nI (dn R0 n) ∧ dn R0 n ≤ nv) : ∀ (k i fu : Nat) (R : Nat → Nat → Int32), i + k = tk → k < fu → WKd R0 R p nv i → ∃ R', f_X7_endsAs_L236 (nI p) J k46 fu (nI i) R = k46 R' ∧ WKd R0 R' p nv tk := by
  intro k
  induction k with
  | zero =>
    intro i fu R hi hf hR
    obtain ⟨fu, rfl⟩ : ∃ z, fu = z + 1 := ⟨fu - 1, by omega⟩
    obtain rfl : i = tk := by omega
    exact ⟨R, by rw [f_X7_endsAs_L236, hJ, if_neg (nI_nlt (by omega) (by omega))], hR⟩
  | succ k ih =>
    intro i fu R hi hf hR
    obtain ⟨fu, rfl⟩ : ∃ z, fu = z + 1 := ⟨fu - 1, by omega⟩
    obtain ⟨n, n1, n2, n3, n4⟩ := hw i (by omega)
    obtain ⟨w1, w2⟩ := hR
    have e46 : R 346 i = nI n := (w1 _ _ (by omega)).trans n2
    obtain ⟨R4, e4⟩ : ∃ z, z = up2 (up2 (up2 (up2 R 354 i (R0 338 n)) 356 i (R0 341 n)) 357 i (R0 343 n)) 358 i (R0 349 n) := ⟨_, rfl⟩
    have r4 : ∀ j x, (j < 354 ∨ j = 355 ∨ 358 < j) → R4 j x = R j x := fun j x q => by
      rw [e4, up2_j (by omega), up2_j (by omega), up2_j (by omega), up2_j (by omega)]
    have r4b : ∀ j x, x ≠ i → R4 j x = R j x := fun j x q => by
      rw [e4, up2_k q, up2_k q, up2_k q, up2_k q]
    have r454 : R4 354 i = R0 338 n := by rw [e4, up2_j (by decide), up2_j (by decide), up2_j (by decide), up2_s]
    have r456 : R4 356 i = R0 341 n := by rw [e4, up2_j (by decide), up2_j (by decide), up2_s]
    have r457 : R4 357 i = R0 343 n := by rw [e4, up2_j (by decide), up2_s]
    have r458 : R4 358 i = R0 349 n := by rw [e4, up2_s]
    obtain ⟨zz, ez⟩ : ∃ z : Int32, z = (if dn R0 n < nv then R0 321 (6 * p + dn R0 n) else 0) := ⟨_, rfl⟩
    obtain ⟨R5, e5⟩ : ∃ z, z = up2 R4 359 i zz := ⟨_, rfl⟩
    have r5 : ∀ j x, j ≠ 359 → R5 j x = R4 j x := fun j x q => by rw [e5, up2_j q]
    obtain ⟨R6, q1, q2, q3⟩ := r_wrow_L (J := J) (R0 := R0) (a1 := nI p) (k64 := fun A65 => f_X7_endsAs_L236 (nI p) J k46 fu (nI (i + 1)) A65) (show i < 250 by omega) n1 6 0 FU R5 (by omega) (t_fu _ (by omega)) (fun j x h => (r5 j x (by omega)).trans ((r4 j x (by omega)).trans (w1 j x (by omega))))
    have hW : WKd R0 R6 p nv (i + 1) := by
      refine ⟨fun j x h => (q2 j x (fun q => by omega)).trans ((r5 j x (by omega)).trans ((r4 j x (by omega)).trans (w1 j x h))), fun x m hx hm hm2 => ?_⟩
      by_cases hxi : x = i
      · subst hxi
        have hmn : m = n := by rw [n2, t_eq (by omega) (by omega)] at hm; exact hm.symm
        subst hmn
        rw [q2 354 _ (fun q => by omega), q2 356 _ (fun q => by omega), q2 357 _ (fun q => by omega), q2 358 _ (fun q => by omega), q2 359 _ (fun q => by omega), r5 354 _ (by decide), r5 356 _ (by decide), r5 357 _ (by decide), r5 358 _ (by decide), e5, up2_s, ez]
        exact ⟨r454, r456, r457, r458, rfl, fun v hv => q3 v (by omega) hv⟩
      · obtain ⟨u1, u2, u3, u4, u5, u6⟩ := w2 x m (by omega) hm hm2
        rw [q2 354 _ (fun q => by omega), q2 356 _ (fun q => by omega), q2 357 _ (fun q => by omega), q2 358 _ (fun q => by omega), q2 359 _ (fun q => by omega), r5 354 _ (by decide), r5 356 _ (by decide), r5 357 _ (by decide), r5 358 _ (by decide), e5, up2_k hxi, r4b _ _ hxi, r4b _ _ hxi, r4b _ _ hxi, r4b _ _ hxi, r4b _ _ hxi]
        refine ⟨u1, u2, u3, u4, u5, fun v hv => ?_⟩
        rw [q2 355 _ (fun q => by omega), q2 360 _ (fun q => by omega), q2 361 _ (fun q => by omega), r5 355 _ (by decide), r5 360 _ (by decide), r5 361 _ (by decide), r4 355 _ (by omega), r4 360 _ (by omega), r4 361 _ (by omega)]
        exact u6 v hv
    obtain ⟨R', p1, p2⟩ := ih (i + 1) fu R6 (by omega) (by omega) hW
    refine ⟨R', ?_, p2⟩
    have hr338 : ∀ F : Nat → Nat → Int32, F = R4 → F 338 n = nI (dn R0 n) := fun F h => by rw [h, r4 338 n (by omega), w1 338 n (by omega)]; exact n3
    have hr319 : R4 319 p = nI nv := by rw [r4 319 p (by omega), w1 319 p (by omega)]; exact h319
    have hr321 : ∀ x, R4 321 x = R0 321 x := fun x => by rw [r4 321 x (by omega), w1 321 x (by omega)]
    have hq1 : f_X7_endsAs_L357 (nI i) (nI p) J (fun A65 => f_X7_endsAs_L236 (nI p) J k46 fu (nI (i + 1)) A65) FU 0 (nI n) R5 = k46 R' := q1.trans p1
    rw [f_X7_endsAs_L236, hJ, if_pos (nI_lt (by omega) (by omega))]
    simp (disch := omega) only [gd_in, t_cl, e46, bd, nI_1, w1 338 _ (Or.inl (by omega)), up2_j (show (341 : Nat) ≠ 354 by decide), up2_j (show (343 : Nat) ≠ 356 by decide), up2_j (show (343 : Nat) ≠ 354 by decide), up2_j (show (349 : Nat) ≠ 357 by decide), up2_j (show (349 : Nat) ≠ 356 by decide), up2_j (show (349 : Nat) ≠ 354 by decide), w1 341 _ (Or.inl (by omega)), w1 343 _ (Or.inl (by omega)), w1 349 _ (Or.inl (by omega))]
    rw [← e4, hr338 R4 rfl, hr319]
    by_cases hd : dn R0 n < nv
    · rw [if_pos hd] at ez
      rw [if_pos (nI_lt hd (by omega)), m6, gd_in (by omega) (by omega), t_cl (show 6 * p + dn R0 n < 2147483648 by omega), hr321, ← ez, ← e5]
      exact hq1
    · rw [if_neg hd] at ez
      rw [ez] at e5
      rw [if_neg (nI_nlt (by omega) (by omega)), ← e5]
      exact hq1
theorem m60 (a : Nat) : 6 * nI a = nI (6 * a) := by rw [show (6 : Int32) = nI 6 from rfl, tI_mul]
theorem nI_p2 (a : Nat) : nI a + 2 = nI (a + 2) := nI_add a 2
theorem nI_p3 (a : Nat) : nI a + 3 = nI (a + 3) := nI_add a 3
theorem nI_p4 (a : Nat) : nI a + 4 = nI (a + 4) := nI_add a 4
theorem nI_p5 (a : Nat) : nI a + 5 = nI (a + 5) := nI_add a 5
theorem r_endsAs {J R : Nat → Nat → Int32} {p nv tk mL : Nat} {nx : Option Nat} {r : Int32} (hp : p < 5) (hnx : f_X7_nextOf J R = some (enc (-9) nx)) (hnx2 : ∀ n, nx = some n → n < 2000) (hJ : J 318 31 = nI tk) (ht : tk ≤ 250) (hnv : nv ≤ 6) (h319 : R 319 p = nI nv) (hw : ∀ x, x < tk → ∃ n, n < 2000 ∧ R 346 x = nI n ∧ R 338 n = nI (dn R n) ∧ dn R n ≤ nv) (hL : 0 < tk → R 346 (tk - 1) = nI mL ∧ mL < 2000) (hr : r = 1 → 0 < tk) : ∃ R', f_X7_endsAs J R (nI p) r = some (up2 (up2 J 318 48 (nI tk)) 318 23 (-9), R') ∧ (∀ j x, (j < 350 ∨ 361 < j) → R' j x = R j x) ∧ (∀ x, ¬ (6 * p ≤ x ∧ x < 6 * p + 6) → R' 350 x = R 350 x ∧ R' 353 x = R 353 x) ∧ (∀ x, x ≠ p → R' 351 x = R 351 x ∧ R' 352 x = R 352 x) ∧ R' 350 (6 * p) = r ∧ R' 350 (6 * p + 1) = nI tk ∧ R' 350 (6 * p + 2) = J 318 30 ∧ R' 350 (6 * p + 3) = J 318 28 ∧ R' 350 (6 * p + 4) = (if r = 1 then R 341 mL else -1000000) ∧ R' 350 (6 * p + 5) = (if r = 1 then R 341 mL else bno R nx) ∧ R' 351 p = 1 ∧ R' 352 p = (if r = 1 then 1 else 0) ∧ (r = 1 → ∀ v, v < 6 → R' 353 (6 * p + v) = R 339 (6 * mL + v)) ∧ WKe R R' p nv tk := by
  obtain ⟨x4, e4⟩ : ∃ z : Int32, z = (if r = 1 then R 341 mL else -1000000) := ⟨_, rfl⟩
  obtain ⟨x5, e5⟩ : ∃ z : Int32, z = (if r = 1 then R 341 mL else bno R nx) := ⟨_, rfl⟩
  obtain ⟨x2, e2⟩ : ∃ z : Int32, z = (if r = 1 then 1 else 0) := ⟨_, rfl⟩
  obtain ⟨RA, eA⟩ : ∃ z, z = up2 (up2 (up2 (up2 (up2 (up2 (up2 (up2 R 350 (6 * p) r) 350 (6 * p + 1) (nI tk)) 350 (6 * p + 2) (J 318 30)) 350 (6 * p + 3) (J 318 28)) 350 (6 * p + 4) x4) 350 (6 * p + 5) x5) 351 p 1) 352 p x2 := ⟨_, rfl⟩
  have rA : ∀ j x, ¬ (j = 350 ∧ 6 * p ≤ x ∧ x < 6 * p + 6) → ¬ ((j = 351 ∨ j = 352) ∧ x = p) → RA j x = R j x := fun j x q1 q2 => by
    rw [eA]; unfold up2
    rw [if_neg (fun q => q2 ⟨by omega, q.2⟩), if_neg (fun q => q2 ⟨by omega, q.2⟩), if_neg (fun q => q1 ⟨q.1, by omega, by omega⟩), if_neg (fun q => q1 ⟨q.1, by omega, by omega⟩), if_neg (fun q => q1 ⟨q.1, by omega, by omega⟩), if_neg (fun q => q1 ⟨q.1, by omega, by omega⟩), if_neg (fun q => q1 ⟨q.1, by omega, by omega⟩), if_neg (fun q => q1 ⟨q.1, by omega, by omega⟩)]
  have a0 : RA 350 (6 * p) = r := by rw [eA, up2_j (by decide), up2_j (by decide), up2_k (by omega), up2_k (by omega), up2_k (by omega), up2_k (by omega), up2_k (by omega), up2_s]
  have a1 : RA 350 (6 * p + 1) = nI tk := by rw [eA, up2_j (by decide), up2_j (by decide), up2_k (by omega), up2_k (by omega), up2_k (by omega), up2_k (by omega), up2_s]
  have a2 : RA 350 (6 * p + 2) = J 318 30 := by rw [eA, up2_j (by decide), up2_j (by decide), up2_k (by omega), up2_k (by omega), up2_k (by omega), up2_s]
  have a3 : RA 350 (6 * p + 3) = J 318 28 := by rw [eA, up2_j (by decide), up2_j (by decide), up2_k (by omega), up2_k (by omega), up2_s]
  have a4 : RA 350 (6 * p + 4) = x4 := by rw [eA, up2_j (by decide), up2_j (by decide), up2_k (by omega), up2_s]
  have a5 : RA 350 (6 * p + 5) = x5 := by rw [eA, up2_j (by decide), up2_j (by decide), up2_s]
  have a6 : RA 351 p = 1 := by rw [eA, up2_j (by decide), up2_s]
  have a7 : RA 352 p = x2 := by rw [eA, up2_s]
  -- behind the answer
  have hB : ∃ RB, ((if r = 1 then anr RA p mL 6 else RA) = RB) ∧ (∀ j x, ¬ (j = 353 ∧ 6 * p ≤ x ∧ x < 6 * p + 6) → RB j x = RA j x) ∧ (r = 1 → ∀ v, v < 6 → RB 353 (6 * p + v) = R 339 (6 * mL + v)) := by
    by_cases h1 : r = 1
    · refine ⟨_, if_pos h1, fun j x q => by unfold anr; rw [if_neg q], fun _ v hv => ?_⟩
      unfold anr
      rw [if_pos ⟨rfl, by omega, by omega⟩, rA _ _ (fun q => by omega) (fun q => by omega), show 6 * mL + (6 * p + v - 6 * p) = 6 * mL + v by omega]
    · exact ⟨_, if_neg h1, fun _ _ _ => rfl, fun q => absurd q h1⟩
  obtain ⟨RB, eB, rB, rBa⟩ := hB
  have rBo : ∀ j x, (j < 350 ∨ 353 < j) → RB j x = R j x := fun j x q => (rB j x (fun q => by omega)).trans (rA j x (fun q => by omega) (fun q => by omega))
  have hdnB : ∀ n, dn RB n = dn R n := fun n => dn_c (rBo 338 n (by omega))
  obtain ⟨R', w1, w2⟩ := r_wk_L (J := up2 J 318 48 (nI tk)) (R0 := RB) (nv := nv) (k46 := fun A47 => some (up2 (up2 J 318 48 (nI tk)) 318 23 (-9), A47)) hp (by rw [up2_k (by decide)]; exact hJ) ht hnv (by rw [rBo 319 p (by omega)]; exact h319) (fun x hx => by
      obtain ⟨n, n1, n2, n3, n4⟩ := hw x hx
      exact ⟨n, n1, by rw [rBo 346 x (by omega)]; exact n2, by rw [rBo 338 n (by omega), hdnB]; exact n3, by rw [hdnB]; exact n4⟩) tk 0 FU RB (by omega) (t_fu _ (by omega)) ⟨fun _ _ _ => rfl, fun x n h => by omega⟩
  obtain ⟨v1, v2⟩ := w2
  refine ⟨R', ?_, fun j x q => (v1 j x (by omega)).trans (rBo j x (by omega)), fun x q => ⟨(v1 _ _ (by omega)).trans ((rB _ _ (fun q => by omega)).trans (rA _ _ (fun r => q r.2) (fun q => by omega))), (v1 _ _ (by omega)).trans ((rB _ _ (fun r => q r.2)).trans (rA _ _ (fun q => by omega) (fun q => by omega)))⟩, fun x q => ⟨(v1 _ _ (by omega)).trans ((rB _ _ (fun q => by omega)).trans (rA _ _ (fun q => by omega) (fun r => q r.2))), (v1 _ _ (by omega)).trans ((rB _ _ (fun q => by omega)).trans (rA _ _ (fun q => by omega) (fun r => q r.2)))⟩, ?_, ?_, ?_, ?_, ?_, ?_, ?_, ?_, fun h1 v hv => ?_, ?_⟩
  · have hw1 : f_X7_endsAs_L236 (nI p) (up2 J 318 48 (nI tk)) (fun A47 => some (up2 (up2 J 318 48 (nI tk)) 318 23 (-9), A47)) FU 0 RB = some (up2 (up2 J 318 48 (nI tk)) 318 23 (-9), R') := w1
    by_cases h1 : r = 1
    · have htk := hr h1
      obtain ⟨hl1, hl2⟩ := hL htk
      have hpos : (0 : Int32) < nI tk := nI_lt (a := 0) htk (by omega)
      rw [if_pos h1] at e4 e5 e2 eB
      have hans := r_ans_L (J := J) (R := RA) (k78 := fun A79 => f_X7_endsAs_L236 (nI p) (up2 J 318 48 (nI tk)) (fun A47 => some (up2 (up2 J 318 48 (nI tk)) 318 23 (-9), A47)) FU 0 A79) hp hl2 6 0 FU (by omega) (t_fu _ (by omega))
      have e0 : anr RA p mL 0 = RA := by funext j x; unfold anr; rw [if_neg (fun q => by omega)]
      rw [e0, eB] at hans
      have e341a : ∀ q, up2 (up2 (up2 (up2 R 350 (6 * p) r) 350 (6 * p + 1) (nI tk)) 350 (6 * p + 2) (J 318 30)) 350 (6 * p + 3) (J 318 28) 341 q = R 341 q := fun q => by
        rw [up2_j (by decide), up2_j (by decide), up2_j (by decide), up2_j (by decide)]
      have e341 : ∀ q y, up2 (up2 (up2 (up2 (up2 R 350 (6 * p) r) 350 (6 * p + 1) (nI tk)) 350 (6 * p + 2) (J 318 30)) 350 (6 * p + 3) (J 318 28)) 350 (6 * p + 4) y 341 q = R 341 q := fun q y => by
        rw [up2_j (by decide), up2_j (by decide), up2_j (by decide), up2_j (by decide), up2_j (by decide)]
      simp (disch := omega) only [f_X7_endsAs, hnx, Option.bind_some, bd, hJ, if_pos hpos, nI_s1, gd_in, t_cl, hl1, m60, nI_1, nI_p2, nI_p3, nI_p4, nI_p5, if_pos h1, e341a, e341, nz_1]
      rw [← e4] at e5
      rw [e5, e2] at eA
      rw [← e4, ← eA]
      exact hans.trans hw1
    · rw [if_neg h1] at e4 e5 e2 eB
      have e341 : ∀ q y, up2 (up2 (up2 (up2 (up2 R 350 (6 * p) r) 350 (6 * p + 1) (nI tk)) 350 (6 * p + 2) (J 318 30)) 350 (6 * p + 3) (J 318 28)) 350 (6 * p + 4) y 341 q = R 341 q := fun q y => by
        rw [up2_j (by decide), up2_j (by decide), up2_j (by decide), up2_j (by decide), up2_j (by decide)]
      rw [eB.symm] at hw1
      rw [e4, e2] at eA
      have hrest : (if enc (-9) nx = (-9) then f_X7_endsAs_L236 (nI p) (up2 J 318 48 (nI tk)) (fun A47 => some (up2 (up2 J 318 48 (nI tk)) 318 23 (-9), A47)) FU 0 (up2 (up2 (up2 (up2 (up2 (up2 (up2 (up2 R 350 (6 * p) r) 350 (6 * p + 1) (nI tk)) 350 (6 * p + 2) (J 318 30)) 350 (6 * p + 3) (J 318 28)) 350 (6 * p + 4) (-1000000)) 350 (6 * p + 5) (-1000000)) 351 p 1) 352 p 0) else gd (inr (enc (-9) nx) 2000) (f_X7_endsAs_L236 (nI p) (up2 J 318 48 (nI tk)) (fun A47 => some (up2 (up2 J 318 48 (nI tk)) 318 23 (-9), A47)) FU 0 (up2 (up2 (up2 (up2 (up2 (up2 (up2 (up2 R 350 (6 * p) r) 350 (6 * p + 1) (nI tk)) 350 (6 * p + 2) (J 318 30)) 350 (6 * p + 3) (J 318 28)) 350 (6 * p + 4) (-1000000)) 350 (6 * p + 5) (R 341 (enc (-9) nx).toNatClampNeg)) 351 p 1) 352 p 0))) = some (up2 (up2 J 318 48 (nI tk)) 318 23 (-9), R') := by
        cases nx with
        | none =>
          have e5 : x5 = -1000000 := e5
          rw [e5] at eA
          rw [if_pos (show enc (-9) none = -9 from rfl), ← eA]
          exact hw1
        | some n =>
          have hn := hnx2 n rfl
          have e5 : x5 = R 341 n := e5
          rw [e5] at eA
          have e9 : enc (-9) (some n) = nI n := rfl
          rw [e9, if_neg (t_m9 (by omega)), gd_in hn (by omega), t_cl (show n < 2147483648 by omega), ← eA]
          exact hw1
      by_cases htk : 0 < tk
      · have hpos : (0 : Int32) < nI tk := nI_lt (a := 0) htk (by omega)
        simp (disch := omega) only [f_X7_endsAs, hnx, Option.bind_some, bd, hJ, if_pos hpos, nI_s1, gd_in, t_cl, m60, nI_1, nI_p2, nI_p3, nI_p4, nI_p5, if_neg h1, nz_1, nz_0, e341]
        exact hrest
      · have hneg : ¬ (0 : Int32) < nI tk := nI_nlt (b := tk) (a := 0) (by omega) (by omega)
        simp (disch := omega) only [f_X7_endsAs, hnx, Option.bind_some, bd, hJ, if_neg hneg, gd_in, t_cl, m60, nI_1, nI_p2, nI_p3, nI_p4, nI_p5, if_neg h1, nz_1, nz_0, e341]
        exact hrest
  · rw [v1 _ _ (by omega), rB _ _ (fun q => by omega)]; exact a0
  · rw [v1 _ _ (by omega), rB _ _ (fun q => by omega)]; exact a1
  · rw [v1 _ _ (by omega), rB _ _ (fun q => by omega)]; exact a2
  · rw [v1 _ _ (by omega), rB _ _ (fun q => by omega)]; exact a3
  · rw [v1 _ _ (by omega), rB _ _ (fun q => by omega), a4]; exact e4
  · rw [v1 _ _ (by omega), rB _ _ (fun q => by omega), a5]; exact e5
  · rw [v1 _ _ (by omega), rB _ _ (fun q => by omega)]; exact a6
  · rw [v1 _ _ (by omega), rB _ _ (fun q => by omega), a7]; exact e2
  · rw [v1 _ _ (by omega)]; exact rBa h1 v hv
  · intro x n h1 h2 h3
    have := v2 x n h1 (by rw [rBo 346 x (by omega)]; exact h2) h3
    rw [hdnB, rBo 338 n (by omega), rBo 341 n (by omega), rBo 343 n (by omega), rBo 349 n (by omega), rBo 321 _ (by omega)] at this
    obtain ⟨u1, u2, u3, u4, u5, u6⟩ := this
    exact ⟨u1, u2, u3, u4, u5, fun v hv => by
      have := u6 v hv
      rw [rBo 339 _ (by omega), rBo 347 _ (by omega), rBo 348 _ (by omega)] at this
      exact this⟩
