/-! THE TIE: a node comes to the trees -/
theorem nb_nI : ∀ m, m < 100 → vp_nar .byte (nI m).toInt8.toInt32 = nI m := by decide +kernel
theorem nb_9 : vp_nar .byte (-9 : Int32).toInt8.toInt32 = -9 := by decide +kernel
theorem nb_m9 : vp_nar .byte (-9) = -9 := by decide +kernel
theorem nb_0 : vp_nar .byte 0 = 0 := by decide +kernel
theorem nb_1 : vp_nar .byte 1 = 1 := by decide +kernel
theorem nb_2 : vp_nar .byte 2 = 2 := by decide +kernel
theorem nb_3 : vp_nar .byte 3 = 3 := by decide +kernel
theorem ns_m1 : vp_nar .short (-1) = -1 := by decide +kernel
theorem ns_nI : ∀ m, m < 2000 → vp_nar .short (nI m).toInt16.toInt32 = nI m := by decide +kernel
theorem nz_0 : vp_nar .boolean 0 = 0 := by decide +kernel
theorem nz_1 : vp_nar .boolean 1 = 1 := by decide +kernel
theorem tgd {T : Nat} (hT : TrAt T) : (T < 318 ∧ kd T = 5) ∧ (T + 1 < 318 ∧ kd (T + 1) = 12) ∧ (T + 2 < 318 ∧ kd (T + 2) = 9) ∧ (T + 3 < 318 ∧ kd (T + 3) = 9) ∧ (T + 4 < 318 ∧ kd (T + 4) = 9) ∧ (T + 5 < 318 ∧ kd (T + 5) = 9) ∧ (T + 6 < 318 ∧ kd (T + 6) = 9) ∧ (T + 7 < 318 ∧ kd (T + 7) = 10) ∧ (T + 8 < 318 ∧ kd (T + 8) = 11) ∧ (T + 9 < 318 ∧ kd (T + 9) = 8) ∧ (T + 10 < 318 ∧ kd (T + 10) = 8) ∧ (T + 11 < 318 ∧ kd (T + 11) = 0) := by
  obtain ⟨h, h0, h1, h2, h3, h4, h5, h6, h7, h8, h9, h10, h11⟩ := tr_o hT
  exact ⟨⟨by omega, h0⟩, ⟨by omega, h1⟩, ⟨by omega, h2⟩, ⟨by omega, h3⟩, ⟨by omega, h4⟩, ⟨by omega, h5⟩, ⟨by omega, h6⟩, ⟨by omega, h7⟩, ⟨by omega, h8⟩, ⟨by omega, h9⟩, ⟨by omega, h10⟩, ⟨by omega, h11⟩⟩
theorem ti {T k : Nat} (hT : TrAt T) (hk : k < lT T) : inr (nI k) (ln (T + 1)) ∧ inr (nI k) (ln (T + 2)) ∧ inr (nI k) (ln (T + 3)) ∧ inr (nI k) (ln (T + 4)) ∧ inr (nI k) (ln (T + 5)) ∧ inr (nI k) (ln (T + 6)) ∧ inr (nI k) (ln (T + 7)) ∧ inr (nI k) (ln (T + 8)) := by
  obtain ⟨h1, h2, h3, h4, h5, h6, h7, h8, _, _, _, hl⟩ := tr_l hT
  rw [h1, h2, h3, h4, h5, h6, h7, h8]
  have := t_in hk (show lT T < 2147483648 by omega)
  exact ⟨this, this, this, this, this, this, this, this⟩
theorem t_add {I A : Nat → Nat → Int32} {L : Nat → Nat → Int64} {T kn dp : Nat} {row : Int64} (hT : TrAt T) (hk : I T 9 = nI kn) (hkn : kn < lT T) (hd : dp < 100) (hw : ∃ x, x < 100 ∧ I (T + 11) 0 = nI x) (hy : I (T + 11) 1 = -9 ∨ ∃ x, x < 100 ∧ I (T + 11) 1 = nI x) : ∃ A', f_X5_addJudged I A L T (nI dp) row = some (up2 I T 9 (nI (kn + 1)), A', up2 L (T + 1) kn (plc (I (T + 11) 2) row)) ∧ (∀ j m, ¬ (T + 2 ≤ j ∧ j ≤ T + 8 ∧ m = kn) → A' j m = A j m) ∧ A' (T + 2) kn = nI dp ∧ A' (T + 3) kn = I (T + 11) 0 ∧ A' (T + 4) kn = I (T + 11) 1 ∧ A' (T + 5) kn = 0 ∧ A' (T + 6) kn = -9 ∧ A' (T + 7) kn = -1 ∧ A' (T + 8) kn = 0 := by
  obtain ⟨g0, g1, g2, g3, g4, g5, g6, g7, g8, g9, g10, g11⟩ := tgd hT
  obtain ⟨i1, i2, i3, i4, i5, i6, i7, i8⟩ := ti hT hkn
  have hl := (tr_l hT).2.2.2.2.2.2.2.2.2.2.2
  obtain ⟨x, hx, ex⟩ := hw
  have e4 : vp_nar .byte (I (T + 11) 1).toInt8.toInt32 = I (T + 11) 1 := by
    rcases hy with q | ⟨y, hy, q⟩
    · rw [q]; exact nb_9
    · rw [q]; exact nb_nI y hy
  have e3 : vp_nar .byte (I (T + 11) 0).toInt8.toInt32 = I (T + 11) 0 := by rw [ex]; exact nb_nI x hx
  refine ⟨up2 (up2 (up2 (up2 (up2 (up2 (up2 A (T + 2) kn (nI dp)) (T + 3) kn (I (T + 11) 0)) (T + 4) kn (I (T + 11) 1)) (T + 5) kn 0) (T + 6) kn (-9)) (T + 7) kn (-1)) (T + 8) kn 0, ?_, ?_, ?_, ?_, ?_, ?_, ?_, ?_, ?_⟩
  · simp only [f_X5_addJudged, bd, hk, t_cl (show kn < 2147483648 by omega), gd_t g0, gd_t g1, gd_t g2, gd_t g3, gd_t g4, gd_t g5, gd_t g6, gd_t g7, gd_t g8, gd_t g11, gd_t i1, gd_t i2, gd_t i3, gd_t i4, gd_t i5, gd_t i6, gd_t i7, gd_t i8, nb_nI dp hd, e3, e4, nb_0, nb_m9, ns_m1, nz_0, nI_1]
    rfl
  · intro j m hj
    have hne : ∀ o, 2 ≤ o → o ≤ 8 → ¬ (j = T + o ∧ m = kn) := fun o h1 h2 q => hj ⟨by omega, by omega, q.2⟩
    unfold up2
    rw [if_neg (hne 8 (by omega) (by omega)), if_neg (hne 7 (by omega) (by omega)), if_neg (hne 6 (by omega) (by omega)), if_neg (hne 5 (by omega) (by omega)), if_neg (hne 4 (by omega) (by omega)), if_neg (hne 3 (by omega) (by omega)), if_neg (hne 2 (by omega) (by omega))]
  · rw [up2_j (by omega), up2_j (by omega), up2_j (by omega), up2_j (by omega), up2_j (by omega), up2_j (by omega), up2_s]
  · rw [up2_j (by omega), up2_j (by omega), up2_j (by omega), up2_j (by omega), up2_j (by omega), up2_s]
  · rw [up2_j (by omega), up2_j (by omega), up2_j (by omega), up2_j (by omega), up2_s]
  · rw [up2_j (by omega), up2_j (by omega), up2_j (by omega), up2_s]
  · rw [up2_j (by omega), up2_j (by omega), up2_s]
  · rw [up2_j (by omega), up2_s]
  · rw [up2_s]
/-- the row that is written, up to i -/
def rrw (R : Nat → Nat → Int32) (nn : Nat) (w : Nat → Nat) (d i : Nat) : Nat → Nat → Int32 := fun j m => if j = 339 ∧ 6 * nn ≤ m ∧ m < 6 * nn + i then (if m - 6 * nn < d then nI (w (m - 6 * nn)) else -9) else R j m
def kk7 (w : Nat → Nat) (d : Nat) : Nat → Nat
  | 0 => 0
  | i + 1 => 7 * kk7 w d i + dg w d i
theorem rrw_s {R : Nat → Nat → Int32} {nn d i : Nat} {w : Nat → Nat} : up2 (rrw R nn w d i) 339 (6 * nn + i) (if i < d then nI (w i) else -9) = rrw R nn w d (i + 1) := by
  funext j m
  unfold up2 rrw
  by_cases h : j = 339 ∧ m = 6 * nn + i
  · rw [if_pos h, if_pos (show j = 339 ∧ 6 * nn ≤ m ∧ m < 6 * nn + (i + 1) from ⟨h.1, by omega, by omega⟩), show m - 6 * nn = i by omega]
  · rw [if_neg h]
    by_cases h2 : j = 339 ∧ 6 * nn ≤ m ∧ m < 6 * nn + i
    · rw [if_pos h2, if_pos (show j = 339 ∧ 6 * nn ≤ m ∧ m < 6 * nn + (i + 1) from ⟨h2.1, h2.2.1, by omega⟩)]
    · rw [if_neg h2, if_neg (fun q => h2 ⟨q.1, q.2.1, by
        rcases Nat.lt_or_ge m (6 * nn + i) with r | r
        · exact r
        · exact absurd ⟨q.1, by omega⟩ h⟩)]
theorem r_row_L {J R : Nat → Nat → Int32} {nn d : Nat} {w : Nat → Nat} {k15 : Int32 → Int32 → (Nat → Nat → Int32) → Option ((Nat → Nat → Int32) × (Nat → Nat → Int32))} (hn : nn < 2000) (hd : d ≤ 6) (hw : ∀ i, i < d → R 364 i = nI (w i)) : ∀ (k i fu : Nat), i + k = 6 → k < fu → f_X7_addNode_L74 (nI d) J k15 fu (nI i) (nI (kk7 w d i)) (nI nn) (rrw R nn w d i) = k15 (nI nn) (nI (kk7 w d 6)) (rrw R nn w d 6) := by
  intro k
  induction k with
  | zero =>
    intro i fu hi hf
    obtain ⟨fu, rfl⟩ : ∃ z, fu = z + 1 := ⟨fu - 1, by omega⟩
    obtain rfl : i = 6 := by omega
    rw [f_X7_addNode_L74, if_neg (by decide)]
  | succ k ih =>
    intro i fu hi hf
    obtain ⟨fu, rfl⟩ : ∃ z, fu = z + 1 := ⟨fu - 1, by omega⟩
    have ih' := ih (i + 1) fu (by omega) (by omega)
    have hs := rrw_s (R := R) (nn := nn) (d := d) (i := i) (w := w)
    rw [f_X7_addNode_L74, if_pos (show nI i < 6 from nI_lt (b := 6) (by omega) (by omega))]
    have er : ∀ j, (rrw R nn w d j) 364 i = R 364 i := fun j => by unfold rrw; rw [if_neg (fun q => by omega)]
    by_cases hid : i < d
    · rw [if_pos hid] at hs
      have e7 : 7 * nI (kk7 w d i) + nI (w i + 1) = nI (kk7 w d (i + 1)) := by
        rw [kk7, dg, if_pos hid, show (7 : Int32) = nI 7 from rfl, tI_mul, nI_add]
      simp (disch := omega) only [bd, t_lt, hid, if_true, gd_in, t_cl, er, hw i hid, m6, hs, e7, nI_1, ih']
    · rw [if_neg hid] at hs
      have e7 : 7 * nI (kk7 w d i) + 0 = nI (kk7 w d (i + 1)) := by
        rw [kk7, dg, if_neg hid, show (7 : Int32) = nI 7 from rfl, tI_mul, Int32.add_zero, Nat.add_zero]
      simp (disch := omega) only [bd, t_lt, hid, if_false, gd_in, t_cl, m6, hs, e7, nI_1, ih']
theorem kk7_6 (w : Nat → Nat) (d : Nat) : kk7 w d 6 = e7 w d := by
  simp only [kk7, e7]
  omega
theorem r_add {J R : Nat → Nat → Int32} {nn d : Nat} {w : Nat → Nat} {a2 : Int32} (en : J 318 29 = nI nn) (hn : nn < 2000) (hd : d ≤ 6) (hw : ∀ i, i < d → R 364 i = nI (w i)) : ∃ R', f_X7_addNode J R (nI d) a2 = some (up2 J 318 29 (nI (nn + 1)), R') ∧ (∀ j m, ¬ ((j = 338 ∨ j = 340 ∨ j = 341 ∨ j = 342 ∨ j = 343 ∨ j = 344 ∨ j = 345 ∨ j = 349) ∧ m = nn) → ¬ (j = 339 ∧ 6 * nn ≤ m ∧ m < 6 * nn + 6) → R' j m = R j m) ∧ R' 338 nn = nI d ∧ R' 342 nn = a2 ∧ R' 341 nn = J 318 65 ∧ R' 343 nn = -9 ∧ R' 344 nn = 0 ∧ R' 345 nn = 0 ∧ R' 349 nn = 0 ∧ R' 340 nn = nI (e7 w d) ∧ ∀ i, i < 6 → R' 339 (6 * nn + i) = if i < d then nI (w i) else -9 := by
  have e9 : ∀ F : Nat → Nat → Int32, rrw F nn w d 0 = F := fun F => by
    funext j m; unfold rrw; rw [if_neg (fun q => by omega)]
  refine ⟨up2 (rrw (up2 (up2 (up2 (up2 (up2 (up2 (up2 R 338 nn (nI d)) 342 nn a2) 341 nn (J 318 65)) 343 nn (-9)) 344 nn 0) 345 nn 0) 349 nn 0) nn w d 6) 340 nn (nI (e7 w d)), ?_, ?_, ?_, ?_, ?_, ?_, ?_, ?_, ?_, ?_, ?_⟩
  · have hL := r_row_L (J := up2 J 318 29 (nI (nn + 1))) (R := up2 (up2 (up2 (up2 (up2 (up2 (up2 R 338 nn (nI d)) 342 nn a2) 341 nn (J 318 65)) 343 nn (-9)) 344 nn 0) 345 nn 0) 349 nn 0) (k15 := fun (v16 : Int32) (v17 : Int32) (A18 : Nat → Nat → Int32) => gd (inr v16 2000) <| some (up2 J 318 29 (nI (nn + 1)), up2 A18 340 v16.toNatClampNeg v17)) hn hd (fun i hi => by rw [up2_j (by omega), up2_j (by omega), up2_j (by omega), up2_j (by omega), up2_j (by omega), up2_j (by omega), up2_j (by omega)]; exact hw i hi) 6 0 FU (by omega) (t_fu 6 (by omega))
    rw [e9] at hL
    simp (disch := omega) only [f_X7_addNode, bd, en, nI_1, gd_in, t_cl, nz_0, up2_k (show (65 : Nat) ≠ 29 by decide)]
    refine Eq.trans hL ?_
    simp (disch := omega) only [gd_in, t_cl, kk7_6]
  · intro j m h1 h2
    have hne : ∀ q, (q = 338 ∨ q = 340 ∨ q = 341 ∨ q = 342 ∨ q = 343 ∨ q = 344 ∨ q = 345 ∨ q = 349) → ¬ (j = q ∧ m = nn) := fun q hq e => h1 ⟨by rw [e.1]; exact hq, e.2⟩
    simp only [up2, rrw, if_neg (hne 340 (by omega)), if_neg h2, if_neg (hne 349 (by omega)), if_neg (hne 345 (by omega)), if_neg (hne 344 (by omega)), if_neg (hne 343 (by omega)), if_neg (hne 341 (by omega)), if_neg (hne 342 (by omega)), if_neg (hne 338 (by omega))]
  all_goals try (unfold up2 rrw; simp; done)
  · intro i hi
    rw [up2_j (by omega)]
    unfold rrw
    rw [if_pos ⟨rfl, by omega, by omega⟩, show 6 * nn + i - 6 * nn = i by omega]
/-- now becomes the row of node n -/
def nwr (R : Nat → Nat → Int32) (n i : Nat) : Nat → Nat → Int32 := fun j m => if j = 364 ∧ m < i then R 339 (6 * n + m) else R j m
theorem r_rowOf_L {R : Nat → Nat → Int32} {n : Nat} {k4 : (Nat → Nat → Int32) → Option (Nat → Nat → Int32)} (hn : n < 2000) : ∀ (k i fu : Nat), i + k = 6 → k < fu → f_X7_rowOf_L2 (nI n) k4 fu (nI i) (nwr R n i) = k4 (nwr R n 6) := by
  intro k
  induction k with
  | zero =>
    intro i fu hi hf
    obtain ⟨fu, rfl⟩ : ∃ z, fu = z + 1 := ⟨fu - 1, by omega⟩
    obtain rfl : i = 6 := by omega
    rw [f_X7_rowOf_L2, if_neg (by decide)]
  | succ k ih =>
    intro i fu hi hf
    obtain ⟨fu, rfl⟩ : ∃ z, fu = z + 1 := ⟨fu - 1, by omega⟩
    have e1 : (nwr R n i) 339 (6 * n + i) = R 339 (6 * n + i) := by unfold nwr; rw [if_neg (fun q => by omega)]
    have e2 : up2 (nwr R n i) 364 i (R 339 (6 * n + i)) = nwr R n (i + 1) := by
      funext j m
      unfold up2 nwr
      by_cases h : j = 364 ∧ m = i
      · rw [if_pos h, if_pos ⟨h.1, by omega⟩, h.2]
      · rw [if_neg h]
        by_cases h2 : j = 364 ∧ m < i
        · rw [if_pos h2, if_pos ⟨h2.1, by omega⟩]
        · rw [if_neg h2, if_neg (fun q => by
            rcases Nat.lt_or_ge m i with r | r
            · exact h2 ⟨q.1, r⟩
            · exact h ⟨q.1, by omega⟩)]
    rw [f_X7_rowOf_L2, if_pos (show nI i < 6 from nI_lt (b := 6) (by omega) (by omega))]
    simp (disch := omega) only [bd, gd_in, t_cl, m6, e1, e2, nI_1]
    exact ih (i + 1) fu (by omega) (by omega)
theorem r_rowOf {R : Nat → Nat → Int32} {n : Nat} (hn : n < 2000) : f_X7_rowOf R (nI n) = some (nwr R n 6) := by
  simp only [f_X7_rowOf, bd]
  have e : nwr R n 0 = R := by funext j m; unfold nwr; rw [if_neg (fun q => by omega)]
  have h := r_rowOf_L (R := R) (k4 := fun A5 => some A5) hn 6 0 FU (by omega) (t_fu 6 (by omega))
  rw [e] at h
  exact h
/-- what a judgement can be -/
theorem bnd_r {I A : Nat → Nat → Int32} {B v nr d : Nat} : ∀ (k i : Nat) (a : Int32), i + k ≤ 6 → ((bnd I A B v nr d k i a).1 = 0 ∧ (bnd I A B v nr d k i a).2.1 = -9) ∨ ((bnd I A B v nr d k i a).1 = 3 ∧ ∃ x, x < 6 ∧ (bnd I A B v nr d k i a).2.1 = nI x)
  | 0, _, _, _ => Or.inl ⟨rfl, rfl⟩
  | k + 1, i, a, h => by
    unfold bnd
    by_cases hc : lbd I A B v nr d i = -1000000
    · rw [if_pos hc]; exact Or.inr ⟨rfl, i, by omega, rfl⟩
    · rw [if_neg hc]; exact bnd_r k (i + 1) _ (by omega)
theorem lk_r {I A : Nat → Nat → Int32} {B v nv nr d : Nat} {mt : Int32} (hnv : nv ≤ 6) (hnr : nr ≤ 8) (hd : d ≤ 6) : ((lk I A B v nv nr d mt).1 = 0 ∧ (lk I A B v nv nr d mt).2.1 = -9) ∨ ((∃ x, 1 ≤ x ∧ x < 4 ∧ (lk I A B v nv nr d mt).1 = nI x) ∧ ∃ x, x < 100 ∧ (lk I A B v nv nr d mt).2.1 = nI x) := by
  unfold lk
  by_cases h0 : fbk I A B v nr = -9
  · rw [if_pos h0]
    by_cases h1 : mt = 0 ∨ d = 0 ∨ ftw I A B v nr (d - 1) = -9
    · rw [if_pos h1]
      rcases bnd_r (I := I) (A := A) (B := B) (v := v) (nr := nr) (d := d) nv 0 0 (by omega) with q | ⟨q1, x, q2, q3⟩
      · exact Or.inl q
      · exact Or.inr ⟨⟨3, by omega, by omega, q1⟩, x, by omega, q3⟩
    · rw [if_neg h1]
      refine Or.inr ⟨⟨2, by omega, by omega, rfl⟩, ?_⟩
      rcases fst1_o (p := ptw I A B v nr (d - 1)) (d - 1) 0 with q | ⟨x, q1, q2, q3, _⟩
      · exact absurd (Or.inr (Or.inr q)) h1
      · exact ⟨x, by omega, q3⟩
  · rw [if_neg h0]
    refine Or.inr ⟨⟨1, by omega, by omega, rfl⟩, ?_⟩
    rcases fst1_o (p := pbr I A B v) nr 0 with q | ⟨x, q1, q2, q3, _⟩
    · exact absurd q h0
    · exact ⟨x, by omega, q3⟩
