/-! THE TIE: whose turn it is; turns one after the other -/
theorem t_rem {a b : Nat} (ha : a < 2147483648) (hb0 : 0 < b) (hb : b < 2147483648) : nI a - nI a / nI b * nI b = nI (a % b) := by
  have hd : nI a / nI b = nI (a / b) := by
    apply Int32.toInt_inj.1
    rw [Int32.toInt_div, nI_toInt (by omega), nI_toInt (by omega), nI_toInt (by have := Nat.div_le_self a b; omega)]
    have e : (a : Int).tdiv b = ((a / b : Nat) : Int) := by
      rw [Int.tdiv_eq_ediv_of_nonneg (by omega)]; rfl
    rw [e]
    have hq := Nat.div_le_self a b
    generalize a / b = q at *
    apply Int.bmod_eq_of_le <;> omega
  rw [hd, tI_mul]
  have e2 : nI a = nI (a % b) + nI (a / b * b) := by
    rw [nI_add]; congr 1; rw [Nat.mul_comm]; exact (Nat.mod_add_div a b).symm
  rw [e2, Int32.add_sub_cancel]
def who (R : Nat → Nat → Int32) (tn sc z : Nat) : Nat := if tn < sc then (if (R 331 tn).toNatClampNeg < z then (R 331 tn).toNatClampNeg else 0) else (tn - sc) % z
section SO
variable {I A : Nat → Nat → Int32} {L : Nat → Nat → Int64} {J R : Nat → Nat → Int32} {T E p B nv nr kn nn dd tk tn hb z sc : Nat} {fb : Nat → Option (Nat × Nat)} {G : Nat → Nat → Nat}
theorem who_5 (h : TTe I A J R E z sc) : who R tn sc z < 5 := by
  obtain ⟨t1, t2, t3, t4, t5, t6, t7, t8⟩ := h
  unfold who
  by_cases h1 : tn < sc
  · rw [if_pos h1]
    split <;> omega
  · rw [if_neg h1]
    have := Nat.mod_lt (tn - sc) (show z > 0 by omega)
    omega
theorem t_who (h : TTe I A J R E z sc) (hE : TeAt E) (htn : tn < 1073741824) : f_X4_whoHasTurn I A E (nI tn) = some (nI (who R tn sc z)) := by
  obtain ⟨t1, t2, t3, t4, t5, t6, t7, t8⟩ := h
  have e1 : (nI tn).toNatClampNeg = tn := t_cl (by omega)
  have e2 : (I E 1).toNatClampNeg = sc := by rw [t5]; exact t_cl (by omega)
  have e3 : (I E 0).toNatClampNeg = z := by rw [t1]; exact t_cl (by omega)
  unfold f_X4_whoHasTurn
  rw [gd_t ⟨hE, by rw [e1], by rw [e1]; omega, by rw [e2]; exact t7, by rw [e3]; exact t3, by rw [e3]; exact t4, by rw [e3]; exact t1, by rw [e2]; exact t5⟩, e1, e2, e3]
  unfold who
  by_cases h1 : tn < sc
  · rw [if_pos h1, if_pos h1]
    obtain ⟨q, x, hx, qx⟩ := t8 tn h1
    rw [q, qx, t_cl (by omega)]
    simp (disch := omega) only [t_lt]
    split <;> rfl
  · rw [if_neg h1, if_neg h1]
theorem TSv_tn (h : TSv I G A L J R T E p B nv nr kn nn dd tk tn hb z sc fb) : TSv (up2 I 14 3 (nI (tn + 1))) G A L (up2 J 318 28 (nI (tn + 1))) R T E p B nv nr kn nn dd tk (tn + 1) hb z sc fb := by
  obtain ⟨⟨hT, hG, hPr, hmt, hX, hF, hd1, hd2, ht1, ht2, hw⟩, hE, hGT, hGE, hkn, hhc, hH, hTe, hlim, htn1, htn2, hT46, ht250⟩ := h
  have hT22 : 22 ≤ T := by rcases hT with h | h | h <;> omega
  have hE14 := (te_o hE).1
  obtain ⟨t1, t2, t3, t4, t5, t6, t7, t8⟩ := hTe
  refine ⟨⟨hT, hG, TPr_of hPr (fun j k h1 h2 => up2_j (by omega)) (fun _ _ _ _ => rfl) (fun _ _ _ _ => rfl), by rw [up2_j (by omega)]; exact hmt, TT_fr hX (up2_j (by omega)) (fun _ _ _ _ => rfl) (fun _ => rfl) (fun _ => rfl) (up2_k (by decide)) (fun _ _ _ _ _ => rfl), hF, by rw [up2_j (by omega)]; exact hd1, by rw [up2_k (by decide)]; exact hd2, by rw [up2_j (by omega)]; exact ht1, by rw [up2_k (by decide)]; exact ht2, hw⟩, hE, hGT, hGE, hkn, hhc, hH, ⟨by rw [up2_j (by omega)]; exact t1, by rw [up2_k (by decide)]; exact t2, t3, t4, by rw [up2_j (by omega)]; exact t5, by rw [up2_k (by decide)]; exact t6, t7, t8⟩, by rw [up2_k (by decide), up2_k (by decide)]; exact hlim, up2_s _ _ _ _, up2_s _ _ _ _, hT46, ht250⟩
theorem TSv_w {I' A' J' R' : Nat → Nat → Int32} {tk' : Nat} (h : TSv I G A L J R T E p B nv nr kn nn dd tk tn hb z sc fb) (hw : XW T I A J R I' A' J' R') (hS : TSw I' G A' L J' R' T p B nv nr kn nn dd tk' 1 True fb) (h1 : tk ≤ tk') (h2 : tk' ≤ 250) : TSv I' G A' L J' R' T E p B nv nr kn nn dd tk' tn hb z sc fb := by
  obtain ⟨⟨hT, _⟩, hE, hGT, hGE, hkn, hhc, hH, hTe, hlim, htn1, htn2, hT46, ht250⟩ := h
  have hT58 := (tr_o hT).1
  have hT22 : 22 ≤ T := by rcases hT with h | h | h <;> omega
  have hE14 := (te_o hE).1
  obtain ⟨w1, w2, w3, w4, w5⟩ := hw
  have hfi : fi A' T kn = fi A T kn := by funext m; unfold fi; rw [os_c (A := A) (A' := A') (fun c _ => w2 _ _ (by omega) (by omega) (by omega))]
  obtain ⟨t1, t2, t3, t4, t5, t6, t7, t8⟩ := hTe
  refine ⟨hS, hE, hGT, hGE, hkn, ?_, fun x hx => ?_, ⟨by rw [w1 _ _ (fun q => by omega)]; exact t1, by rw [w3 _ _ (fun q => by omega)]; exact t2, t3, t4, by rw [w1 _ _ (fun q => by omega)]; exact t5, by rw [w3 _ _ (fun q => by omega)]; exact t6, t7, fun i hi => by rw [w2 _ _ (by omega) (by omega) (by omega), w4 _ _ (by decide) (by decide)]; exact t8 i hi⟩, by rw [w1 _ _ (fun q => by omega), w3 _ _ (fun q => by omega)]; exact hlim, by rw [w1 _ _ (fun q => by omega)]; exact htn1, by rw [w3 _ _ (fun q => by omega)]; exact htn2, hT46, h2⟩
  · have e : hc A' = hc A := by
      unfold hc; simp only [fun m => w2 15 m (show 15 ≠ T + 5 by omega) (by omega) (by omega)]
    omega
  · have hx := hH x hx
    unfold THo THa THt at hx ⊢
    rw [hfi, w2 15 x (by omega) (by omega) (by omega), w2 16 x (by omega) (by omega) (by omega), w2 (E + 1) x (by omega) (by omega) (by omega), w2 (E + 3) x (by omega) (by omega) (by omega), w2 (E + 4) x (by omega) (by omega) (by omega), w2 (E + 5) x (by omega) (by omega) (by omega), w4 337 x (by decide) (by decide), w4 336 x (by decide) (by decide), w4 335 x (by decide) (by decide), w4 334 x (by decide) (by decide), w4 333 x (by decide) (by decide), w4 332 x (by decide) (by decide)]
    simp only [fun m => w4 343 m (by decide) (by decide), fun m => w4 344 m (by decide) (by decide)]
    exact hx
/-- how a solving stands behind a turn -/
def TEn (R : Nat → Nat → Int32) (nv nn tk : Nat) (r : Int32) : Prop := (r = 0 ∧ tk < 250 ∧ (∃ m, nxw R nn = some m ∧ R 344 m = 0)) ∨ (r = 1 ∧ 0 < tk ∧ ∃ m, m < nn ∧ R 346 (tk - 1) = nI m ∧ dn R m = nv) ∨ (r = 2 ∧ nxw R nn = none) ∨ r = 3 ∨ r = 4
theorem t_wsv (h : TSv I G A L J R T E p B nv nr kn nn dd tk tn hb z sc fb) (ht : tk < 250) : ∃ r I' A' J' R' tk', f_X3_walkOn I G A L = some (r, I', A') ∧ f_X7_walks J R (nI p) = some (r, J', R') ∧ TSv I' G A' L J' R' T E p B nv nr kn nn dd tk' tn hb z sc fb ∧ XT T E I A L J R I' A' L J' R' ∧ TEn R' nv nn tk' r ∧ tk ≤ tk' := by
  have hS := h.1
  have hT := hS.1
  have n2 := (t_nxw hS.2.2.2.2.1 hT).2
  obtain ⟨r, I', A', J', R', tk', q1, q2, q3, q4, q5, q6, q7⟩ := t_walk h.2.2.1 (250 - tk) 0 FU FU tk I A J R (by omega) (by omega) (by omega) (t_fu _ (by omega)) (t_fu _ (by omega)) h.2.2.2.2.2.2.2.2.1 hS
  refine ⟨r, I', A', J', R', tk', ?_, ?_, TSv_w h q4 q3 q5 q6, XT_w q4, q7, q5⟩
  · simp only [f_X3_walkOn, bd]; exact q1
  · simp only [f_X7_walks, n2, Option.bind_some, bd]; exact q2
theorem t_turn (h : TSv I G A L J R T E p B nv nr kn nn dd tk tn hb z sc fb) (ht : tk < 250) (hb30 : hb < 1073741824) (htn : tn < 1073741824) : ∃ r I' A' L' J' R' J2 R2 kn' nn' dd' tk' fb', f_X3_takeTurn I G A L = some (r, I', A', L') ∧ f_X7_turnOf (up2 J 318 28 (nI (tn + 1))) R (nI p) (nI (who R tn sc z)) = some (J2, R2) ∧ f_X7_walks J2 R2 (nI p) = some (r, J', R') ∧ TSv I' G A' L' J' R' T E p B nv nr kn' nn' dd' tk' (tn + 1) (hb + 1) z sc fb' ∧ XT T E I A L J R I' A' L' J' R' ∧ TEn R' nv nn' tk' r ∧ tk ≤ tk' := by
  have h1 := TSv_tn h
  obtain ⟨⟨hT, _⟩, hE, hGT, hGE, hkn, hhc, hH, hTe, hlim, htn1, htn2, hT46, ht250⟩ := h
  have hT22 : 22 ≤ T := by rcases hT with h | h | h <;> omega
  have hw5 := who_5 (tn := tn) hTe
  have hwho := t_who hTe hE htn
  obtain ⟨g0, _⟩ := tgd hT
  obtain ⟨k0, k1, k3, k4, k5, l1, l3, l4, l5⟩ := tegd hE
  have hX0 : XT T E I A L J R (up2 I 14 3 (nI (tn + 1))) A L (up2 J 318 28 (nI (tn + 1))) R := ⟨fun j k _ _ h3 => by unfold up2; rw [if_neg h3], fun k _ _ _ => up2_j (by omega), fun _ _ _ _ _ _ _ _ => rfl, fun _ _ _ => rfl, fun j k h => by unfold up2; rw [if_neg (fun q => h ⟨q.1, by omega⟩)], fun _ _ _ _ => rfl⟩
  generalize hhh : who R tn sc z = hh at *
  by_cases hno : A 15 hh = -1
  · obtain ⟨A1, R1, q1, q2, q3, q4⟩ := t_pick h1 hw5 hno hb30
    obtain ⟨r, I', A', J', R', tk', w1, w2, w3, w4, w5, w6⟩ := t_wsv q3 ht
    refine ⟨r, I', A', L, J', R', _, R1, kn, nn, dd, tk', fb, ?_, q2, w2, w3, XT_tr (XT_tr hX0 q4) w4, w5, w6⟩
    simp (disch := omega) only [f_X3_takeTurn, hGE, gd_t k0, htn1, hwho, Option.bind_some, bd, nI_1, gd_in, t_cl, if_pos hno, q1, w1]
  · by_cases hfl : A 16 hh = A (E + 1) hh
    · obtain ⟨A1, R1, q1, q2, q3, q4⟩ := t_repl h1 hw5 hno hfl hb30
      obtain ⟨r, I', A', J', R', tk', w1, w2, w3, w4, w5, w6⟩ := t_wsv q3 ht
      refine ⟨r, I', A', L, J', R', _, R1, kn, nn, dd, tk', fb, ?_, q2, w2, w3, XT_tr (XT_tr hX0 q4) w4, w5, w6⟩
      simp (disch := omega) only [f_X3_takeTurn, hGE, gd_t k0, htn1, hwho, Option.bind_some, bd, nI_1, gd_in, t_cl, if_neg hno, gd_t k1, l1, if_pos hfl, q1, w1]
    · obtain ⟨I1, A1, L1, J1, R1, kn1, nn1, fb1, q1, q2, q3, q4⟩ := t_done h1 hw5 hno hfl hb30
      obtain ⟨r, I', A', J', R', tk', w1, w2, w3, w4, w5, w6⟩ := t_wsv q3 ht
      refine ⟨r, I', A', L1, J', R', J1, R1, kn1, nn1, dd + 1, tk', fb1, ?_, q2, w2, w3, XT_tr (XT_tr hX0 q4) w4, w5, w6⟩
      simp (disch := omega) only [f_X3_takeTurn, hGE, hGT, gd_t k0, htn1, hwho, Option.bind_some, bd, nI_1, gd_in, t_cl, if_neg hno, gd_t k1, l1, if_neg hfl, gd_t g0, q1, gd_t k3, l3, w1]
theorem TEn_0 {r : Int32} (h : TEn R nv nn tk r) : (r = 0 ∨ r = 1 ∨ r = 2 ∨ r = 3 ∨ r = 4) ∧ (0 < r ↔ ¬ r = 0) := by
  rcases h with ⟨h, _⟩ | ⟨h, _⟩ | ⟨h, _⟩ | h | h <;> rw [h] <;> decide
/-- one turn of the reference's loop -/
theorem r_turn {k38 : Int32 → (Nat → Nat → Int32) → (Nat → Nat → Int32) → Option (Int32 × (Nat → Nat → Int32) × (Nat → Nat → Int32))} {k45 : (Nat → Nat → Int32) → (Nat → Nat → Int32) → Option (Int32 × (Nat → Nat → Int32) × (Nat → Nat → Int32))} {i ms fu : Nat} {J2 R2 J' R' : Nat → Nat → Int32} {r : Int32} (h : TTe I A J R E z sc) (ht : J 318 28 = nI tn) (htn : tn < 1073741824) (hi : i < ms) (hms : ms ≤ 500) (h1 : f_X7_turnOf (up2 J 318 28 (nI (tn + 1))) R (nI p) (nI (who R tn sc z)) = some (J2, R2)) (h2 : f_X7_walks J2 R2 (nI p) = some (r, J', R')) : f_X7_solve_L143 (nI p) (nI ms) k38 k45 (fu + 1) (nI i) J R = if 0 < r then k38 r J' R' else f_X7_solve_L143 (nI p) (nI ms) k38 k45 fu (nI (i + 1)) J' R' := by
  obtain ⟨t1, t2, t3, t4, t5, t6, t7, t8⟩ := h
  have e15 : up2 J 318 28 (nI (tn + 1)) 318 15 = nI z := by rw [up2_k (by decide)]; exact t2
  -- the join
  have hj : ∀ x : Nat, x < 2147483648 → (if x < z then x else 0) = who R tn sc z → (if nI x < nI z then (Option.bind (f_X7_turnOf (up2 J 318 28 (nI (tn + 1))) R (nI p) (nI x)) fun (I63, A64) => Option.bind (f_X7_walks I63 A64 (nI p)) fun (r66, I67, A68) => if 0 < r66 then (k38 r66 I67 A68) else (f_X7_solve_L143 (nI p) (nI ms) k38 k45 fu (nI (i + 1)) I67 A68)) else (Option.bind (f_X7_turnOf (up2 J 318 28 (nI (tn + 1))) R (nI p) 0) fun (I55, A56) => Option.bind (f_X7_walks I55 A56 (nI p)) fun (r58, I59, A60) => if 0 < r58 then (k38 r58 I59 A60) else (f_X7_solve_L143 (nI p) (nI ms) k38 k45 fu (nI (i + 1)) I59 A60))) = if 0 < r then k38 r J' R' else f_X7_solve_L143 (nI p) (nI ms) k38 k45 fu (nI (i + 1)) J' R' := fun x hx hw => by
    by_cases hxz : x < z
    · rw [if_pos hxz] at hw
      rw [if_pos (nI_lt hxz (by omega)), hw, h1, Option.bind_some]
      show (Option.bind (f_X7_walks J2 R2 (nI p)) _) = _
      rw [h2, Option.bind_some]
    · rw [if_neg hxz] at hw
      rw [if_neg (nI_nlt (by omega) (by omega))]
      have h1 : f_X7_turnOf (up2 J 318 28 (nI (tn + 1))) R (nI p) 0 = some (J2, R2) := by rw [← hw] at h1; exact h1
      rw [h1, Option.bind_some]
      show (Option.bind (f_X7_walks J2 R2 (nI p)) _) = _
      rw [h2, Option.bind_some]
  rw [f_X7_solve_L143, if_pos (nI_lt hi (by omega))]
  simp only [bd]
  rw [ht, nI_1, e15, nI_1, t2, t6]
  by_cases h1 : tn < sc
  · rw [if_pos (nI_lt h1 (by omega)), gd_in (show tn < 200 by omega) (by omega), t_cl (show tn < 2147483648 by omega)]
    obtain ⟨q, x, hx, qx⟩ := t8 tn h1
    rw [qx]
    refine hj x (by omega) ?_
    unfold who
    rw [if_pos h1, qx, t_cl (by omega)]
  · rw [if_neg (nI_nlt (by omega) (by omega)), gd_t (show ¬ nI z = 0 from nI_ne0 (by omega) (by omega))]
    have e1 : nI tn - nI sc = nI (tn - sc) := by
      have : nI tn = nI (tn - sc) + nI sc := by rw [nI_add, Nat.sub_add_cancel (by omega)]
      rw [this, Int32.add_sub_cancel]
    rw [e1, t_rem (by omega) (by omega) (by omega)]
    have hm := Nat.mod_lt (tn - sc) (show z > 0 by omega)
    refine hj _ (by omega) ?_
    unfold who
    rw [if_neg h1, if_pos hm]
end SO
section SL
variable {T E p B nv nr z sc ms : Nat} {G : Nat → Nat → Nat}
theorem t_loop {k29 : Int32 → (Nat → Nat → Int32) → (Nat → Nat → Int32) → (Nat → Nat → Int64) → Option (Int32 × (Nat → Nat → Int32) × (Nat → Nat → Nat) × (Nat → Nat → Int32) × (Nat → Nat → Int64))} {k38 : Int32 → (Nat → Nat → Int32) → (Nat → Nat → Int32) → Option (Int32 × (Nat → Nat → Int32) × (Nat → Nat → Int32))} {k45 : (Nat → Nat → Int32) → (Nat → Nat → Int32) → Option (Int32 × (Nat → Nat → Int32) × (Nat → Nat → Int32))} (hms : ms ≤ 500) : ∀ (k i fu fu' tn hb kn nn dd tk : Nat) (fb : Nat → Option (Nat × Nat)) (I A : Nat → Nat → Int32) (L : Nat → Nat → Int64) (J R : Nat → Nat → Int32), i + k = ms → k + 1 < fu → k < fu' → tn + k < 1073741824 → hb + k < 1073741824 → tk < 250 → TSv I G A L J R T E p B nv nr kn nn dd tk tn hb z sc fb → ∃ r I' A' L' J' R' kn' nn' dd' tk' tn' hb' fb', f_X6_solve_L82 (nI ms) G k29 fu (nI i) 0 I A L = k29 r I' A' L' ∧ f_X7_solve_L143 (nI p) (nI ms) k38 k45 fu' (nI i) J R = (if 0 < r then k38 r J' R' else k45 J' R') ∧ TSv I' G A' L' J' R' T E p B nv nr kn' nn' dd' tk' tn' hb' z sc fb' ∧ XT T E I A L J R I' A' L' J' R' ∧ ((r = 0 ∧ tk' < 250) ∨ (¬ r = 0 ∧ TEn R' nv nn' tk' r)) ∧ tn' ≤ tn + k ∧ hb' ≤ hb + k := by
  intro k
  induction k with
  | zero =>
    intro i fu fu' tn hb kn nn dd tk fb I A L J R hi hf hf' h1 h2 h3 hS
    obtain ⟨fu, rfl⟩ : ∃ z, fu = z + 1 := ⟨fu - 1, by omega⟩
    obtain ⟨fu', rfl⟩ : ∃ z, fu' = z + 1 := ⟨fu' - 1, by omega⟩
    refine ⟨0, I, A, L, J, R, kn, nn, dd, tk, tn, hb, fb, ?_, ?_, hS, XT_rf, Or.inl ⟨rfl, h3⟩, by omega, by omega⟩
    · rw [f_X6_solve_L82, if_neg (nI_nlt (by omega) (by omega))]
    · rw [f_X7_solve_L143, if_neg (nI_nlt (by omega) (by omega)), if_neg (by decide)]
  | succ k ih =>
    intro i fu fu' tn hb kn nn dd tk fb I A L J R hi hf hf' h1 h2 h3 hS
    obtain ⟨fu, rfl⟩ : ∃ z, fu = z + 1 := ⟨fu - 1, by omega⟩
    obtain ⟨fu', rfl⟩ : ∃ z, fu' = z + 1 := ⟨fu' - 1, by omega⟩
    obtain ⟨r, I1, A1, L1, J1, R1, J2, R2, kn1, nn1, dd1, tk1, fb1, q1, q2, q3, q4, q5, q6, q7⟩ := t_turn hS h3 (by omega) (by omega)
    obtain ⟨e0, e1⟩ := TEn_0 q6
    have hr := r_turn (k38 := k38) (k45 := k45) (i := i) (ms := ms) (fu := fu') hS.2.2.2.2.2.2.2.1 hS.2.2.2.2.2.2.2.2.2.2.1 (by omega) (by omega) hms q2 q3
    have hcl : f_X6_solve_L82 (nI ms) G k29 (fu + 1) (nI i) 0 I A L = f_X6_solve_L82 (nI ms) G k29 fu (nI (i + 1)) r I1 A1 L1 := by
      rw [f_X6_solve_L82, if_pos (nI_lt (by omega) (by omega)), if_pos rfl, q1, Option.bind_some, nI_1]
    by_cases h0 : r = 0
    · subst h0
      have ht1 : tk1 < 250 := by
        rcases q6 with ⟨_, q, _⟩ | ⟨q, _⟩ | ⟨q, _⟩ | q | q
        · exact q
        all_goals exact absurd q (by decide)
      obtain ⟨r, I', A', L', J', R', kn', nn', dd', tk', tn', hb', fb', p1, p2, p3, p4, p5, p6, p7⟩ := ih (i + 1) fu fu' (tn + 1) (hb + 1) kn1 nn1 dd1 tk1 fb1 I1 A1 L1 J1 R1 (by omega) (by omega) (by omega) (by omega) (by omega) ht1 q4
      rw [if_neg (by decide)] at hr
      exact ⟨r, I', A', L', J', R', kn', nn', dd', tk', tn', hb', fb', hcl.trans p1, hr.trans p2, p3, XT_tr q5 p4, p5, by omega, by omega⟩
    · refine ⟨r, I1, A1, L1, J1, R1, kn1, nn1, dd1, tk1, tn + 1, hb + 1, fb1, ?_, ?_, q4, q5, Or.inr ⟨h0, q6⟩, by omega, by omega⟩
      · obtain ⟨fu, rfl⟩ : ∃ z, fu = z + 1 := ⟨fu - 1, by omega⟩
        rw [hcl, f_X6_solve_L82]
        by_cases q : nI (i + 1) < nI ms
        · rw [if_pos q, if_neg h0]
        · rw [if_neg q]
      · rw [hr, if_pos (e1.mpr h0), if_pos (e1.mpr h0)]
end SL
