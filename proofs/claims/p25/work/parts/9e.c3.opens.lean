/-! p25: the reference opens a node, told in full -/
/-- a memory with the row w, d values long, at v -/
def Aw (A : Nat → Nat → Int32) (v : Nat) (w : Nat → Nat) (d : Nat) : Nat → Nat → Int32 := fun j m => if j = v then (if m < d then nI (w m) else -1) else A j m
/-- what a row is -/
def lkw (I A : Nat → Nat → Int32) (B v nv nr : Nat) (w : Nat → Nat) (d : Nat) : Int32 × Int32 × Int32 := lk I (Aw A v w d) B v nv nr d 1
/-- a row with one value more -/
def wx (w : Nat → Nat) (d y : Nat) : Nat → Nat := fun i => if i = d then y else w i
/-- a node's own facts -/
def NdS (I A R : Nat → Nat → Int32) (B v nv nr n : Nat) : Prop := dn R n ≤ nv ∧ R 338 n = nI (dn R n) ∧ (∀ i, i < dn R n → R 339 (6 * n + i) = nI (wn R n i) ∧ wn R n i < szo A B i) ∧ (∀ i, dn R n ≤ i → i < 6 → R 339 (6 * n + i) = -9) ∧ R 340 n = nI (e7 (wn R n) (dn R n)) ∧ (lkw I A B v nv nr (wn R n) (dn R n)).1 = 0 ∧ R 341 n = (lkw I A B v nv nr (wn R n) (dn R n)).2.2
/-- what opening leaves as it was -/
def FrO (R R' : Nat → Nat → Int32) (nn : Nat) : Prop := ∀ j m, ¬ (j = 364 ∨ j = 347 ∨ j = 348 ∨ j = 349) → ¬ ((338 ≤ j ∧ j ≤ 345 ∧ j ≠ 339) ∧ nn ≤ m) → ¬ (j = 339 ∧ 6 * nn ≤ m) → R' j m = R j m
section RF
variable {I A J R : Nat → Nat → Int32} {B v p nv nr d n0 nn s y : Nat}
theorem Aw_c {w w' : Nat → Nat} (h : ∀ i, i < d → w i = w' i) : Aw A v w d = Aw A v w' d := by
  funext j m
  unfold Aw
  by_cases e : j = v
  · rw [if_pos e, if_pos e]
    by_cases q : m < d
    · rw [if_pos q, if_pos q, h m q]
    · rw [if_neg q, if_neg q]
  · rw [if_neg e, if_neg e]
theorem lkw_c {w w' : Nat → Nat} (h : ∀ i, i < d → w i = w' i) : lkw I A B v nv nr w d = lkw I A B v nv nr w' d := by
  unfold lkw
  rw [Aw_c h]
theorem e7_c {w w' : Nat → Nat} (h : ∀ i, i < d → w i = w' i) : e7 w d = e7 w' d := by
  have : ∀ i, dg w d i = dg w' d i := fun i => by
    unfold dg
    by_cases q : i < d
    · rw [if_pos q, if_pos q, h i q]
    · rw [if_neg q, if_neg q]
  unfold e7
  rw [this, this, this, this, this, this]
theorem FrO_rf : FrO R R nn := fun _ _ _ _ _ => rfl
theorem FrO_tr {R1 R2 : Nat → Nat → Int32} {nn' : Nat} (a : FrO R R1 nn) (b : FrO R1 R2 nn') (h : nn ≤ nn') : FrO R R2 nn := fun j m h1 h2 h3 => (b j m h1 (fun q => h2 ⟨q.1, by omega⟩) (fun q => h3 ⟨q.1, by omega⟩)).trans (a j m h1 h2 h3)
theorem NdS_fr {R' : Nat → Nat → Int32} {n : Nat} (h : NdS I A R B v nv nr n) (hf : FrO R R' nn) (hn : n < nn) (h6 : nv ≤ 6) : NdS I A R' B v nv nr n ∧ dn R' n = dn R n ∧ ∀ i, i < 6 → wn R' n i = wn R n i := by
  have e1 : dn R' n = dn R n := by unfold dn; rw [hf 338 n (by omega) (by omega) (by omega)]
  have e2 : ∀ i, i < 6 → R' 339 (6 * n + i) = R 339 (6 * n + i) := fun i hi => hf 339 _ (by omega) (by omega) (by omega)
  have e3 : ∀ i, i < 6 → wn R' n i = wn R n i := fun i hi => by unfold wn; rw [e2 i hi]
  obtain ⟨a1, a2, a3, a4, a5, a6, a7⟩ := h
  have ec : ∀ i, i < dn R n → wn R' n i = wn R n i := fun i hi => e3 i (by omega)
  refine ⟨⟨by rw [e1]; exact a1, by rw [e1, hf 338 n (by omega) (by omega) (by omega)]; exact a2, fun i hi => ?_, fun i h1 h2 => by rw [e2 i h2]; exact a4 i (by rw [← e1]; exact h1) h2, ?_, ?_, ?_⟩, e1, e3⟩
  · rw [e1] at hi
    rw [e2 i (by omega), ec i hi]
    exact a3 i hi
  · rw [hf 340 n (by omega) (by omega) (by omega), e1, e7_c ec]; exact a5
  · rw [e1, lkw_c ec]; exact a6
  · rw [hf 341 n (by omega) (by omega) (by omega), e1, lkw_c ec]; exact a7
theorem r_ost {k11 : (Nat → Nat → Int32) → (Nat → Nat → Int32) → Option ((Nat → Nat → Int32) × (Nat → Nat → Int32))} (hPr : TPr I A R p B nv nr) (hv : v < 58) (hN : NdS I A R B v nv nr n0) (hdn : dn R n0 = d) (hn0 : n0 < nn) (hnn : J 318 29 = nI nn) (hnn2 : nn < 1990) (hd : d < nv) (hs : A (B + 1) d = nI s) (hy : y < s) (hs6 : s ≤ 6) (fu' : Nat) : ∃ J' R' nn', f_X7_opens_L40 (nI p) (nI n0) 1 k11 (fu' + 1) (nI y) (nI d) J R = f_X7_opens_L40 (nI p) (nI n0) 1 k11 fu' (nI (y + 1)) (nI d) J' R' ∧ J' 318 29 = nI nn' ∧ (∀ k, ¬ (k = 29 ∨ k = 64 ∨ k = 65) → J' 318 k = J 318 k) ∧ FrO R R' nn ∧ ((¬ (lkw I A B v nv nr (wx (wn R n0) d y) (d + 1)).1 = 0 ∧ nn' = nn) ∨ ((lkw I A B v nv nr (wx (wn R n0) d y) (d + 1)).1 = 0 ∧ nn' = nn + 1 ∧ NdS I A R' B v nv nr nn ∧ dn R' nn = d + 1 ∧ (∀ i, i < d + 1 → wn R' nn i = wx (wn R n0) d y i) ∧ R' 342 nn = nI n0 ∧ R' 343 nn = -9 ∧ R' 344 nn = 0 ∧ R' 345 nn = 0)) := by
  have hB := hPr.2.1
  have hp := hPr.1
  have hnv := hPr.2.2.1.1
  have hnr := hPr.2.2.1.2.1
  have hsz6 : ∀ i, i < nv → szo A B i ≤ 6 := fun i hi => (pr_sz hPr.2.2.1 hi).2.2
  have hw6 : ∀ i, i < d → wn R n0 i < 6 := fun i hi => by
    have := (hN.2.2.1 i (by rw [hdn]; exact hi)).2
    have := hsz6 i (by omega)
    omega
  have hR19 : ∀ i, i < 6 → up2 (nwr R n0 6) 364 d (nI y) 364 i = if i < d then nI (wn R n0 i) else if i = d then nI y else -9 := fun i hi => by
    by_cases h1 : i = d
    · subst h1; rw [up2_s, if_neg (Nat.lt_irrefl i), if_pos rfl]
    · rw [up2_k h1]
      unfold nwr
      rw [if_pos ⟨rfl, hi⟩]
      by_cases h2 : i < d
      · rw [if_pos h2]; exact (hN.2.2.1 i (by rw [hdn]; exact h2)).1
      · rw [if_neg h2, if_neg h1]; exact hN.2.2.2.1 i (by rw [hdn]; omega) hi
  obtain ⟨As, eAs⟩ : ∃ z, z = Aw A v (wx (wn R n0) d y) (d + 1) := ⟨_, rfl⟩
  have oAs : ∀ j m, j ≠ v → As j m = A j m := fun j m q => by rw [eAs]; unfold Aw; rw [if_neg q]
  have hA41 : ∀ i, i < 6 → As v i = if i < d then nI (wn R n0 i) else if i = d then nI y else -1 := fun i hi => by
    rw [eAs]
    unfold Aw wx
    rw [if_pos rfl]
    by_cases h2 : i < d
    · rw [if_pos (by omega), if_neg (by omega), if_pos h2]
    · rw [if_neg h2]
      by_cases h1 : i = d
      · rw [if_pos (by omega), if_pos h1, if_pos h1]
      · rw [if_neg (by omega), if_neg h1]
  have hro : TRo As (up2 (nwr R n0 6) 364 d (nI y)) v := fun i hi => by
    rw [hA41 i hi, hR19 i hi]
    by_cases h2 : i < d
    · rw [if_pos h2, if_pos h2]; exact Or.inr ⟨_, hw6 i h2, rfl, rfl⟩
    · rw [if_neg h2, if_neg h2]
      by_cases h1 : i = d
      · rw [if_pos h1, if_pos h1]; exact Or.inr ⟨y, by omega, rfl, rfl⟩
      · rw [if_neg h1, if_neg h1]; exact Or.inl ⟨rfl, rfl⟩
  have hPr2 : TPr I As (up2 (nwr R n0 6) 364 d (nI y)) p B nv nr := TPr_of hPr (fun _ _ _ _ => rfl) (fun j k h1 _ => oAs j k (by omega)) (fun j k h1 h2 => by rw [up2_j (by omega)]; unfold nwr; rw [if_neg (fun q => by omega)])
  have hsz : ∀ i, szo As B i = szo A B i := fun i => by unfold szo; rw [oAs _ _ (by omega)]
  have hszd : szo A B d = s := by unfold szo; rw [hs, t_cl (by omega)]
  have hRoW : RoW As B v (d + 1) := by
    refine ⟨fun i hi => ?_, fun i h1 h2 => ?_⟩
    · rw [hA41 i (by omega), hsz]
      by_cases h2 : i < d
      · rw [if_pos h2]
        exact vp_in_nI (hN.2.2.1 i (by rw [hdn]; exact h2)).2 (by have := hsz6 i (by omega); omega)
      · rw [if_neg h2, if_pos (by omega), show i = d by omega, hszd]
        exact vp_in_nI hy (by omega)
    · rw [hA41 i h2, if_neg (by omega), if_neg (by omega)]
  obtain ⟨J21, hwh, hJf, hJ0, hJ1⟩ := r_whatIs (J := J) (mt := 1) hPr2 hro hv hRoW (show d + 1 ≤ nv by omega)
  have hlr := lk_r (I := I) (A := As) (B := B) (v := v) (nv := nv) (nr := nr) (d := d + 1) (mt := 1) hnv hnr (by omega)
  have ew : lkw I A B v nv nr (wx (wn R n0) d y) (d + 1) = lk I As B v nv nr (d + 1) 1 := by unfold lkw; rw [eAs]
  rw [ew]
  generalize hw3 : lk I As B v nv nr (d + 1) 1 = w3 at hwh hJ0 hJ1 hlr ew ⊢
  have eS := (hPr.2.2.2.2.2.1 d (by omega)).trans hs
  have hn02 : n0 < 2000 := by omega
  obtain ⟨R28, e28⟩ : ∃ z, z = up2 (up2 (up2 (nwr R n0 6) 364 d (nI y)) 347 (6 * n0 + y) w3.1) 348 (6 * n0 + y) w3.2.1 := ⟨_, rfl⟩
  have r28 : ∀ j m, j ≠ 364 → j ≠ 347 → j ≠ 348 → R28 j m = R j m := fun j m h1 h2 h3 => by
    rw [e28, up2_j h3, up2_j h2, up2_j h1]
    unfold nwr
    rw [if_neg (fun q => h1 q.1)]
  have r28c : ∀ i, i < 6 → R28 364 i = if i < d then nI (wn R n0 i) else if i = d then nI y else -9 := fun i hi => by rw [e28, up2_j (by omega), up2_j (by omega)]; exact hR19 i hi
  have hJ29 : J21 318 29 = nI nn := (hJf 318 29 (fun q => by omega)).trans hnn
  have hrf : f_X7_opens_L40 (nI p) (nI n0) 1 k11 (fu' + 1) (nI y) (nI d) J R = if w3.1 = 0 then (Option.bind (f_X7_addNode J21 R28 (nI (d + 1)) (nI n0)) fun (I30, A31) => f_X7_opens_L40 (nI p) (nI n0) 1 k11 fu' (nI (y + 1)) (nI d) I30 (up2 A31 349 n0 (A31 349 n0 + 1))) else f_X7_opens_L40 (nI p) (nI n0) 1 k11 fu' (nI (y + 1)) (nI d) J21 R28 := by
    simp (disch := omega) only [f_X7_opens_L40, m6, gd_in, t_cl, eS, t_lt, hy, if_true, r_rowOf, Option.bind_some, bd, nI_1, hwh]
    by_cases h0 : w3.1 = 0
    · have e9 : w3.2.1 = -9 := by
        rcases hlr with ⟨_, q⟩ | ⟨⟨x, x1, x2, q⟩, _⟩
        · exact q
        · rw [h0] at q; exact absurd q.symm (nI_ne0 (by omega) (by omega))
      rw [e9] at e28
      rw [if_pos h0, if_pos h0, if_pos h0, e28]
    · rw [if_neg h0, if_neg h0, if_neg h0, hJ1 h0, e28]
  by_cases h0 : w3.1 = 0
  · rw [if_pos h0] at hrf
    obtain ⟨R', a1, a2, a3, a4, a5, a6, a7, a8, a9, a10, a11⟩ := r_add (J := J21) (R := R28) (nn := nn) (d := d + 1) (w := wx (wn R n0) d y) (a2 := nI n0) hJ29 (by omega) (by omega) (fun i hi => by
      rw [r28c i (by omega)]
      unfold wx
      by_cases h2 : i < d
      · rw [if_pos h2, if_neg (by omega)]
      · rw [if_neg h2, if_pos (by omega), if_pos (by omega)])
    rw [a1, Option.bind_some] at hrf
    have o : ∀ j m, j ≠ 349 → up2 R' 349 n0 (R' 349 n0 + 1) j m = R' j m := fun j m q => up2_j q
    have wd : dn (up2 R' 349 n0 (R' 349 n0 + 1)) nn = d + 1 := by unfold dn; rw [o _ _ (by omega), a3, t_cl (by omega)]
    have w6 : ∀ i, i < d + 1 → wx (wn R n0) d y i < szo A B i := fun i hi => by
      unfold wx
      by_cases e : i = d
      · rw [if_pos e, e, hszd]; exact hy
      · rw [if_neg e]; exact (hN.2.2.1 i (by omega)).2
    have ww : ∀ i, i < d + 1 → wn (up2 R' 349 n0 (R' 349 n0 + 1)) nn i = wx (wn R n0) d y i := fun i hi => by
      show (up2 R' 349 n0 (R' 349 n0 + 1) 339 (6 * nn + i)).toNatClampNeg = _
      rw [o _ _ (by omega), a11 i (by omega), if_pos hi]
      have := w6 i hi
      have := hsz6 i (by omega)
      rw [t_cl (by omega)]
    refine ⟨_, _, nn + 1, hrf, up2_s _ _ _ _, fun k hk => by rw [up2_k (by omega)]; exact hJf _ _ (by omega), fun j m h1 h2 h3 => ?_, Or.inr ⟨h0, rfl, ⟨by rw [wd]; omega, by rw [wd, o _ _ (by omega)]; exact a3, fun i hi => ?_, fun i h1 h2 => ?_, ?_, ?_, ?_⟩, wd, ww, by rw [o _ _ (by omega)]; exact a4, by rw [o _ _ (by omega)]; exact a6, by rw [o _ _ (by omega)]; exact a7, by rw [o _ _ (by omega)]; exact a8⟩⟩
    · rw [o _ _ (by omega), a2 j m (by omega) (by omega), r28 j m (by omega) (by omega) (by omega)]
    · rw [wd] at hi
      rw [o _ _ (by omega), a11 i (by omega), if_pos hi, ww i hi]
      exact ⟨rfl, w6 i hi⟩
    · rw [wd] at h1
      rw [o _ _ (by omega), a11 i h2, if_neg (by omega)]
    · rw [o _ _ (by omega), a10, wd, e7_c ww]
    · rw [wd, lkw_c ww, ew]; exact h0
    · rw [o _ _ (by omega), a5, wd, lkw_c ww, ew]; exact hJ0 h0
  · rw [if_neg h0] at hrf
    exact ⟨_, _, nn, hrf, hJ29, fun k hk => hJf _ _ (by omega), fun j m h1 h2 h3 => r28 j m (by omega) (by omega) (by omega), Or.inl ⟨h0, rfl⟩⟩
/-- the new nodes below n0 -/
def NwC (I A R' : Nat → Nat → Int32) (B v nv nr d n0 nn nn' : Nat) (w : Nat → Nat) (y : Nat) : Prop := (∀ m, nn ≤ m → m < nn' → NdS I A R' B v nv nr m ∧ dn R' m = d + 1 ∧ (∀ i, i < d → wn R' m i = w i) ∧ wn R' m d < y ∧ R' 342 m = nI n0 ∧ R' 343 m = -9 ∧ R' 344 m = 0 ∧ R' 345 m = 0) ∧ (∀ x, x < y → (lkw I A B v nv nr (wx w d x) (d + 1)).1 = 0 → ∃ m, nn ≤ m ∧ m < nn' ∧ wn R' m d = x) ∧ ∀ m m', nn ≤ m → m < nn' → nn ≤ m' → m' < nn' → wn R' m d = wn R' m' d → m = m'
theorem r_opn_L {k11 : (Nat → Nat → Int32) → (Nat → Nat → Int32) → Option ((Nat → Nat → Int32) × (Nat → Nat → Int32))} (hv : v < 58) (hn0 : n0 < nn) (hd : d < nv) (hs : A (B + 1) d = nI s) (hs6 : s ≤ 6) {w : Nat → Nat} (hnn6 : nn + 6 < 1990) : ∀ (k y fu nx : Nat) (J1 R1 : Nat → Nat → Int32), y + k = s → k < fu → TPr I A R1 p B nv nr → NdS I A R1 B v nv nr n0 → dn R1 n0 = d → (∀ i, i < d → wn R1 n0 i = w i) → J1 318 29 = nI nx → nn ≤ nx → nx ≤ nn + y → NwC I A R1 B v nv nr d n0 nn nx w y → ∃ J' R' nn', f_X7_opens_L40 (nI p) (nI n0) 1 k11 fu (nI y) (nI d) J1 R1 = k11 J' R' ∧ J' 318 29 = nI nn' ∧ nn ≤ nn' ∧ nn' ≤ nn + 6 ∧ (∀ k, ¬ (k = 29 ∨ k = 64 ∨ k = 65) → J' 318 k = J1 318 k) ∧ FrO R1 R' nn ∧ NwC I A R' B v nv nr d n0 nn nn' w s := by
  intro k
  induction k with
  | zero =>
    intro y fu nx J1 R1 hy hf hPr hN hdn hw hJ h1 h2 hC
    obtain ⟨fu, rfl⟩ : ∃ z, fu = z + 1 := ⟨fu - 1, by omega⟩
    obtain rfl : y = s := by omega
    have hp := hPr.1
    have hnv := hPr.2.2.1.1
    refine ⟨J1, R1, nx, ?_, hJ, h1, by omega, fun _ _ => rfl, FrO_rf, hC⟩
    have eS := (hPr.2.2.2.2.2.1 d (by omega)).trans hs
    rw [f_X7_opens_L40]
    simp (disch := omega) only [m6, gd_in, t_cl, eS]
    rw [if_neg (nI_nlt (by omega) (by omega))]
  | succ k ih =>
    intro y fu nx J1 R1 hy hf hPr hN hdn hw hJ h1 h2 hC
    obtain ⟨fu, rfl⟩ : ∃ z, fu = z + 1 := ⟨fu - 1, by omega⟩
    have hnv := hPr.2.2.1.1
    obtain ⟨J', R', nn', g1, g2, g3, g4, g5⟩ := r_ost (k11 := k11) hPr hv hN hdn (show n0 < nx by omega) hJ (by omega) hd hs (show y < s by omega) hs6 fu
    have hwx : ∀ i, i < d + 1 → wx (wn R1 n0) d y i = wx w d y i := fun i hi => by
      unfold wx
      by_cases e : i = d
      · rw [if_pos e, if_pos e]
      · rw [if_neg e, if_neg e, hw i (by omega)]
    have hlk := lkw_c (I := I) (A := A) (B := B) (v := v) (nv := nv) (nr := nr) hwx
    rw [hlk] at g5
    have hPr' : TPr I A R' p B nv nr := TPr_of hPr (fun _ _ _ _ => rfl) (fun _ _ _ _ => rfl) (fun j m q1 q2 => g4 j m (by omega) (by omega) (by omega))
    obtain ⟨hN', hdn', hw'⟩ := NdS_fr hN g4 (show n0 < nx by omega) hnv
    have old : ∀ m, nn ≤ m → m < nx → NdS I A R' B v nv nr m ∧ dn R' m = dn R1 m ∧ (∀ i, i < 6 → wn R' m i = wn R1 m i) ∧ R' 342 m = R1 342 m ∧ R' 343 m = R1 343 m ∧ R' 344 m = R1 344 m ∧ R' 345 m = R1 345 m := fun m q1 q2 => by
      obtain ⟨a, b, c⟩ := NdS_fr (hC.1 m q1 q2).1 g4 q2 hnv
      exact ⟨a, b, c, g4 342 m (by omega) (by omega) (by omega), g4 343 m (by omega) (by omega) (by omega), g4 344 m (by omega) (by omega) (by omega), g4 345 m (by omega) (by omega) (by omega)⟩
    have hC' : NwC I A R' B v nv nr d n0 nn nn' w (y + 1) := by
      have oldC : ∀ m, nn ≤ m → m < nx → NdS I A R' B v nv nr m ∧ dn R' m = d + 1 ∧ (∀ i, i < d → wn R' m i = w i) ∧ wn R' m d < y ∧ R' 342 m = nI n0 ∧ R' 343 m = -9 ∧ R' 344 m = 0 ∧ R' 345 m = 0 := fun m q1 q2 => by
        obtain ⟨a1, a2, a3, a4, a5, a6, a7⟩ := old m q1 q2
        obtain ⟨c1, c2, c3, c4, c5, c6, c7, c8⟩ := hC.1 m q1 q2
        exact ⟨a1, a2.trans c2, fun i hi => (a3 i (by omega)).trans (c3 i hi), by rw [a3 d (by omega)]; exact c4, a4.trans c5, a5.trans c6, a6.trans c7, a7.trans c8⟩
      rcases g5 with ⟨b1, rfl⟩ | ⟨b1, rfl, b2, b3, b4, b5, b6, b7, b8⟩
      · refine ⟨fun m q1 q2 => ?_, fun x hx hq => ?_, fun m m' q1 q2 q3 q4 e => ?_⟩
        · obtain ⟨c1, c2, c3, c4, c5⟩ := oldC m q1 q2
          exact ⟨c1, c2, c3, by omega, c5⟩
        · by_cases e : x = y
          · subst e; exact absurd hq b1
          · obtain ⟨m, m1, m2, m3⟩ := hC.2.1 x (by omega) hq
            exact ⟨m, m1, m2, by rw [(old m m1 m2).2.2.1 d (by omega)]; exact m3⟩
        · rw [(old m q1 q2).2.2.1 d (by omega), (old m' q3 q4).2.2.1 d (by omega)] at e
          exact hC.2.2 m m' q1 q2 q3 q4 e
      · have wnx : wn R' nx d = y := by rw [b4 d (by omega)]; unfold wx; rw [if_pos rfl]
        refine ⟨fun m q1 q2 => ?_, fun x hx hq => ?_, fun m m' q1 q2 q3 q4 e => ?_⟩
        · by_cases e : m = nx
          · subst e
            refine ⟨b2, b3, fun i hi => ?_, by omega, b5, b6, b7, b8⟩
            rw [b4 i (by omega), hwx i (by omega)]
            unfold wx
            rw [if_neg (by omega)]
          · obtain ⟨c1, c2, c3, c4, c5⟩ := oldC m q1 (by omega)
            exact ⟨c1, c2, c3, by omega, c5⟩
        · by_cases e : x = y
          · subst e; exact ⟨nx, h1, by omega, wnx⟩
          · obtain ⟨m, m1, m2, m3⟩ := hC.2.1 x (by omega) hq
            exact ⟨m, m1, by omega, by rw [(old m m1 m2).2.2.1 d (by omega)]; exact m3⟩
        · by_cases e1 : m = nx
          · by_cases e2 : m' = nx
            · omega
            · have := (oldC m' q3 (by omega)).2.2.2.1
              rw [e1, wnx] at e
              omega
          · by_cases e2 : m' = nx
            · have := (oldC m q1 (by omega)).2.2.2.1
              rw [e2, wnx] at e
              omega
            · rw [(old m q1 (by omega)).2.2.1 d (by omega), (old m' q3 (by omega)).2.2.1 d (by omega)] at e
              exact hC.2.2 m m' q1 (by omega) q3 (by omega) e
    have hle : nx ≤ nn' ∧ nn' ≤ nx + 1 := by rcases g5 with ⟨_, r⟩ | ⟨_, r, _⟩ <;> omega
    obtain ⟨J2, R2, n2, k1, k2, k3, k4, k5, k6, k7⟩ := ih (y + 1) fu nn' J' R' (by omega) (by omega) hPr' hN' (hdn'.trans hdn) (fun i hi => (hw' i (by omega)).trans (hw i hi)) g2 (by omega) (by omega) hC'
    exact ⟨J2, R2, n2, g1.trans k1, k2, k3, k4, fun q hq => (k5 q hq).trans (g3 q hq), fun j m q1 q2 q3 => (k6 j m q1 q2 q3).trans (g4 j m q1 (fun r => q2 ⟨r.1, by omega⟩) (fun r => q3 ⟨r.1, by omega⟩)), k7⟩
/-- opens, told in full -/
theorem r_opn (hPr : TPr I A R p B nv nr) (hv : v < 58) (hN : NdS I A R B v nv nr n0) (hn0 : n0 < nn) (hnn : J 318 29 = nI nn) (hnn6 : nn + 6 < 1990) {dd : Nat} (hdd : J 318 30 = nI dd) : ∃ J' R' nn', f_X7_opens J R (nI p) (nI n0) 1 = some (J', R') ∧ J' 318 29 = nI nn' ∧ J' 318 30 = nI (dd + 1) ∧ nn ≤ nn' ∧ nn' ≤ nn + 6 ∧ (∀ k, ¬ (k = 29 ∨ k = 30 ∨ k = 64 ∨ k = 65) → J' 318 k = J 318 k) ∧ FrO (up2 R 344 n0 1) R' nn ∧ ((dn R n0 = nv ∧ nn' = nn) ∨ (dn R n0 < nv ∧ NwC I A R' B v nv nr (dn R n0) n0 nn nn' (wn R n0) (szo A B (dn R n0)))) := by
  have hp := hPr.1
  have hnv := hPr.2.2.1.1
  have hd := hN.1
  have hR2 : ∀ j m, j ≠ 344 → up2 R 344 n0 1 j m = R j m := fun j m q => up2_j q
  have hPr2 : TPr I A (up2 R 344 n0 1) p B nv nr := TPr_of hPr (fun _ _ _ _ => rfl) (fun _ _ _ _ => rfl) (fun j m q1 q2 => hR2 j m (by omega))
  have e1 : dn (up2 R 344 n0 1) n0 = dn R n0 := by unfold dn; rw [hR2 _ _ (by omega)]
  have e2 : ∀ i, wn (up2 R 344 n0 1) n0 i = wn R n0 i := fun i => by unfold wn; rw [hR2 _ _ (by omega)]
  have hN2 : NdS I A (up2 R 344 n0 1) B v nv nr n0 := by
    obtain ⟨a1, a2, a3, a4, a5, a6, a7⟩ := hN
    have ew : wn (up2 R 344 n0 1) n0 = wn R n0 := funext e2
    unfold NdS
    rw [e1, ew, hR2 _ _ (by omega), hR2 _ _ (by omega), hR2 _ _ (by omega)]
    refine ⟨a1, a2, fun i hi => by rw [hR2 _ _ (by omega)]; exact a3 i hi, fun i h1 h2 => by rw [hR2 _ _ (by omega)]; exact a4 i h1 h2, a5, a6, a7⟩
  have nar1 : vp_nar .boolean 1 = 1 := by decide
  by_cases hf : dn R n0 = nv
  · refine ⟨up2 J 318 30 (nI (dd + 1)), up2 R 344 n0 1, nn, ?_, by rw [up2_k (by decide)]; exact hnn, up2_s _ _ _ _, Nat.le_refl _, by omega, fun k hk => up2_k (by omega), FrO_rf, Or.inl ⟨hf, rfl⟩⟩
    unfold f_X7_opens
    simp (disch := omega) only [gd_in, t_cl, bd, nar1, hdd, nI_1]
    rw [hR2 338 n0 (by omega), hR2 319 p (by omega), hN.2.1, hf, hPr.2.2.2.1, if_pos rfl]
  · have hd2 : dn R n0 < nv := by omega
    obtain ⟨s1, s2, s3⟩ := pr_sz hPr.2.2.1 hd2
    obtain ⟨J', R', nn', g1, g2, g3, g4, g5, g6, g7⟩ := r_opn_L (k11 := fun I12 A13 => some (I12, A13)) (A := A) (I := I) (B := B) (p := p) (nr := nr) (w := wn R n0) hv hn0 hd2 s1 s3 hnn6 (szo A B (dn R n0)) 0 FU nn (up2 J 318 30 (nI (dd + 1))) (up2 R 344 n0 1) (by omega) (t_fu _ (by omega)) hPr2 hN2 e1 (fun i _ => e2 i) (by rw [up2_k (by decide)]; exact hnn) (Nat.le_refl _) (by omega) ⟨fun m q1 q2 => absurd q1 (by omega), fun x hx => absurd hx (by omega), fun m m' q1 q2 => absurd q1 (by omega)⟩
    refine ⟨J', R', nn', ?_, g2, by rw [g5 30 (by omega)]; exact up2_s _ _ _ _, g3, g4, fun k hk => by rw [g5 k (by omega)]; exact up2_k (by omega), g6, Or.inr ⟨hd2, g7⟩⟩
    unfold f_X7_opens
    simp (disch := omega) only [gd_in, t_cl, bd, nar1, hdd, nI_1]
    rw [hR2 338 n0 (by omega), hR2 319 p (by omega), hN.2.1, hPr.2.2.2.1, if_neg (fun q => hf ((t_eq (by omega) (by omega)).mp q))]
    exact g1
end RF
