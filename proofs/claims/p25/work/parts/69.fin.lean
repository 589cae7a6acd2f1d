/-! THE TIE: a node is opened -/
theorem t_fill {A : Nat → Nat → Int32} {j n : Nat} {w : Int32} (hj : IA j n) (h3 : j < 318) (hn : n < 2147483648) : f_J7_fill_53178 A j w = some (fil A j n w) := by
  unfold f_J7_fill_53178
  rw [gd_t ⟨h3, hj.2.1, by rw [hj.2.2]; exact hn⟩, hj.2.2]
theorem t_copy {A : Nat → Nat → Int32} {L : Nat → Nat → Int64} {T c v n f dd : Nat} (hT : TrAt T) (hc : c < lT T) (hv : IA v n) (hf : f + dd ≤ n) (hn : n ≤ 12) (h2 : v ≠ T + 2) (h3 : v < 318) (hd : A (T + 2) c = nI dd) : f_X5_copyValues A L T (nI c) v (nI f) = some (cpy A v f dd (L (T + 1) c)) := by
  have hl := (tr_l hT).2.2.2.2.2.2.2.2.2.2.2
  have e1 : (nI c).toNatClampNeg = c := t_cl (by omega)
  have e2 : (nI f).toNatClampNeg = f := t_cl (by omega)
  have e3 : (A (T + 2) c).toNatClampNeg = dd := by rw [hd]; exact t_cl (by omega)
  unfold f_X5_copyValues
  rw [gd_t ⟨hT, by rw [e1]; exact hc, by rw [e1], by rw [hv.2.2]; exact hv, by rw [e1, e2, e3, hv.2.2]; exact hf, by rw [hv.2.2]; exact hn, h2, h3, by rw [e2], by rw [e1, e3]; exact hd⟩, e1, e2, e3]
theorem t_full {I A : Nat → Nat → Int32} {G : Nat → Nat → Nat} {T B c d nv : Nat} (hT : TrAt T) (hG : G T 14 = B) (hB : PrAt B) (hc : c < lT T) (hd : A (T + 2) c = nI d) (hn : I B 0 = nI nv) (hd6 : d ≤ 6) (hnv : nv ≤ 6) : f_X5_isFull I G A T (nI c) = some (if d < nv then 0 else 1) := by
  obtain ⟨g0, g1, g2, g3, g4, g5, g6, g7, g8, g9, g10, g11⟩ := tgd hT
  obtain ⟨i1, i2, i3, i4, i5, i6, i7, i8⟩ := ti hT hc
  have hl := (tr_l hT).2.2.2.2.2.2.2.2.2.2.2
  unfold f_X5_isFull
  rw [hG, gd_t g0, gd_t g2, gd_t i2, gd_t (pgd hB).1]
  simp (disch := omega) only [t_cl, hd, hn, t_lt]
  split <;> rfl
section FI
variable {T B p nv nr d n0 kn0 s nb : Nat} {mt : Int32} {sv : Prop} {fb : Nat → Option (Nat × Nat)} {tk : Nat → Prop} {G : Nat → Nat → Nat}
theorem t_exp {k30 : (Nat → Nat → Int32) → (Nat → Nat → Int32) → (Nat → Nat → Int64) → Option ((Nat → Nat → Int32) × (Nat → Nat → Int32) × (Nat → Nat → Int64))} {k11 : (Nat → Nat → Int32) → (Nat → Nat → Int32) → Option ((Nat → Nat → Int32) × (Nat → Nat → Int32))} (hT : TrAt T) (hG : G T 14 = B) (hd : d < nv) (hs6 : s ≤ 6) (hk : kn0 + s ≤ lT T) : ∀ (k y fu fu' nn : Nat) (I A : Nat → Nat → Int32) (L : Nat → Nat → Int64) (J R : Nat → Nat → Int32) (row : Int64), y + k = s → k < fu → k < fu' → XI I A L J R T B p nv nr d n0 kn0 y nn mt sv fb tk nb → A (B + 1) d = nI s → row = lN (e8 (wn R n0) d) → ∃ I' A' L' J' R' nn', f_X5_finish_L85 T G k30 fu (nI y) row (nI d) I A L = k30 I' A' L' ∧ f_X7_opens_L40 (nI p) (nI n0) mt k11 fu' (nI y) (nI d) J R = k11 J' R' ∧ XI I' A' L' J' R' T B p nv nr d n0 kn0 s nn' mt sv fb tk nb ∧ XF T (kn0 + y) nn I A L J R I' A' L' J' R' ∧ nn ≤ nn' := by
  intro k
  induction k with
  | zero =>
    intro y fu fu' nn I A L J R row hy hf hf' hX hs _
    obtain ⟨fu, rfl⟩ : ∃ z, fu = z + 1 := ⟨fu - 1, by omega⟩
    obtain ⟨fu', rfl⟩ : ∃ z, fu' = z + 1 := ⟨fu' - 1, by omega⟩
    obtain rfl : y = s := by omega
    have hPr := hX.2.1
    have hp := hPr.1
    have hnv := hPr.2.2.1.1
    obtain ⟨pg1, pg2, pg3⟩ := pgd (tp_at hPr)
    have eS := (hPr.2.2.2.2.2.1 d (by omega)).trans hs
    refine ⟨I, A, L, J, R, nn, ?_, ?_, hX, XF_rf, Nat.le_refl _⟩
    · simp (disch := omega) only [f_X5_finish_L85, hG, gd_t pg1, gd_t pg2, pg3, gd_in, t_cl, hs, t_lt, Nat.lt_irrefl, if_false]
    · simp (disch := omega) only [f_X7_opens_L40, m6, gd_in, t_cl, eS, t_lt, Nat.lt_irrefl, if_false]
  | succ k ih =>
    intro y fu fu' nn I A L J R row hy hf hf' hX hs hrow
    obtain ⟨fu, rfl⟩ : ∃ z, fu = z + 1 := ⟨fu - 1, by omega⟩
    obtain ⟨fu', rfl⟩ : ∃ z, fu' = z + 1 := ⟨fu' - 1, by omega⟩
    have hnv := hX.2.1.2.2.1.1
    have hB58 := pr_ge (tp_at hX.2.1)
    have hT58 := (tr_o hT).1
    have hn0 := hX.2.2.2.1
    obtain ⟨I1, A1, L1, J1, R1, nn1, h1, h2, h3, h4, h5⟩ := t_step (k30 := k30) (k11 := k11) hT hG hX hd hs (by omega) hs6 (by omega) fu fu'
    have hw : e8 (wn R1 n0) d = e8 (wn R n0) d := (e8_c (fun i hi => wn_c (h4.2.2.2.2.2.2.2.2.2 _ (by omega)))).1
    obtain ⟨I2, A2, L2, J2, R2, nn2, q1, q2, q3, q4, q5⟩ := ih (y + 1) fu fu' nn1 I1 A1 L1 J1 R1 row (by omega) (by omega) (by omega) h3 (by rw [h4.2.2.1 _ _ (by omega) (by omega)]; exact hs) (by rw [hw]; exact hrow)
    subst hrow
    exact ⟨I2, A2, L2, J2, R2, nn2, h1.trans q1, h2.trans q2, q3, XF_tr h4 q4 (by omega) h5, Nat.le_trans h5 q5⟩
end FI
/-- what an opening leaves as it was -/
def XO (T kn nn n0 c0 : Nat) (I A : Nat → Nat → Int32) (L : Nat → Nat → Int64) (J R I' A' : Nat → Nat → Int32) (L' : Nat → Nat → Int64) (J' R' : Nat → Nat → Int32) : Prop :=
  (∀ j k, j ≠ T → j ≠ T + 11 → I' j k = I j k) ∧ (∀ k, k ≠ 9 → k ≠ 10 → I' T k = I T k) ∧ (∀ j m, (j < T + 2 ∨ T + 8 < j) → j ≠ T + 10 → A' j m = A j m) ∧ (∀ j m, m < kn → j ≠ T + 10 → ¬ (m = c0 ∧ T + 5 ≤ j ∧ j ≤ T + 7) → A' j m = A j m) ∧ (∀ j m, j ≠ T + 1 → L' j m = L j m) ∧ (∀ m, m < kn → L' (T + 1) m = L (T + 1) m) ∧ (∀ j k, ¬ (j = 318 ∧ (k = 29 ∨ k = 30 ∨ k = 64 ∨ k = 65)) → J' j k = J j k) ∧ (∀ j m, (j < 338 ∨ j = 346 ∨ 349 < j) → j ≠ 364 → R' j m = R j m) ∧ (∀ j m, 338 ≤ j → j ≤ 345 → j ≠ 339 → m < nn → ¬ (j = 344 ∧ m = n0) → R' j m = R j m) ∧ (∀ m, m < 6 * nn → R' 339 m = R 339 m)
section FN
variable {I A : Nat → Nat → Int32} {L : Nat → Nat → Int64} {J R : Nat → Nat → Int32} {T B p nv nr n0 kn nn h dd : Nat} {mt : Int32} {sv : Prop} {fb : Nat → Option (Nat × Nat)} {tk : Nat → Prop} {G : Nat → Nat → Nat}
set_option maxHeartbeats 1000000 in
theorem t_open (hT : TrAt T) (hG : G T 14 = B) (hPr : TPr I A R p B nv nr) (hmt : I T 15 = mt) (hX : TT I A L J R T B nv kn nn sv fb tk (fun n => n = n0)) (hn0 : n0 < nn) (hf0 : fb n0 = none) (hfb : ∀ n, nn ≤ n → fb n = none) (hkn : kn + 6 ≤ lT T) (hh : h < 5) (hd1 : I T 10 = nI dd) (hd2 : J 318 30 = nI dd) : ∃ I' A' L' J' R' kn' nn', f_X5_finish I G A L T (nI (fi A T kn n0)) (nI h) = some (I', A', L') ∧ f_X7_opens J R (nI p) (nI n0) mt = some (J', R') ∧ TT I' A' L' J' R' T B nv kn' nn' sv (fun n => if n = n0 then (if dn R n0 < nv then some (kn, szo A B (dn R n0)) else none) else fb n) (fun a => a ≠ n0 ∧ tk a) (fun n => n = n0) ∧ A' (T + 5) (fi A T kn n0) = 2 ∧ A' (T + 6) (fi A T kn n0) = nI h ∧ R' 344 n0 = 1 ∧ I' T 10 = nI (dd + 1) ∧ J' 318 30 = nI (dd + 1) ∧ kn ≤ kn' ∧ kn' ≤ kn + 6 ∧ nn ≤ nn' ∧ (∀ m, m < nn → fi A' T kn' m = fi A T kn m) ∧ XO T kn nn n0 (fi A T kn n0) I A L J R I' A' L' J' R' ∧ TPr I' A' R' p B nv nr ∧ ∀ n, nn ≤ n → n < nn' → R' 344 n = 0 := by
  have hBat := tp_at hPr
  have hB58 := pr_ge hBat
  have hB := hPr.2.1
  have hp := hPr.1
  have hT58 := (tr_o hT).1
  have hnv := hPr.2.2.1.1
  have hlT := (tr_l hT).2.2.2.2.2.2.2.2.2.2.2
  obtain ⟨hos, hk9, hJ29, hknl, _, hnd⟩ := hX
  have hnn1 : nn ≤ kn := by rw [← hos]; exact os_le _ _ _
  have hc0 := (fi_mem (A := A) (T := T) (kn := kn) (n := n0) (by rw [hos]; exact hn0)).1
  have hs0 := (hnd n0 hn0).1
  have hw6 := ns_6 hs0
  have hd6 : dn R n0 ≤ 6 := by have := hs0.1; omega
  unfold TNs at hs0
  generalize hc : fi A T kn n0 = c0 at *
  generalize hdd : dn R n0 = d at *
  obtain ⟨g0, g1, g2, g3, g4, g5, g6, g7, g8, g9, g10, g11⟩ := tgd hT
  obtain ⟨i1, i2, i3, i4, i5, i6, i7, i8⟩ := ti hT (show c0 < lT T by omega)
  obtain ⟨A7, e7⟩ : ∃ z, z = up2 (up2 A (T + 5) c0 2) (T + 6) c0 (nI h) := ⟨_, rfl⟩
  have a7 : ∀ j m, ¬ (m = c0 ∧ (j = T + 5 ∨ j = T + 6)) → A7 j m = A j m := fun j m q => by
    rw [e7]; unfold up2
    rw [if_neg (fun r => q ⟨r.2, Or.inr r.1⟩), if_neg (fun r => q ⟨r.2, Or.inl r.1⟩)]
  have a75 : A7 (T + 5) c0 = 2 := by rw [e7, up2_j (by omega), up2_s]
  have a76 : A7 (T + 6) c0 = nI h := by rw [e7, up2_s]
  have a72 : A7 (T + 2) c0 = nI d := by rw [a7 _ _ (fun q => by omega)]; exact hs0.2.2.1
  have hfull := t_full (I := up2 I T 10 (nI (dd + 1))) (A := A7) hT hG hBat (show c0 < lT T by omega) a72 (by rw [up2_j (by omega)]; exact hPr.2.2.1.2.2.1) hd6 hnv
  have hnb : vp_nar .byte (nI h).toInt8.toInt32 = nI h := nb_nI h (by omega)
  -- the reference's beginning
  have hR2 : ∀ j m, ¬ (j = 344 ∧ m = n0) → up2 R 344 n0 1 j m = R j m := fun j m q => by unfold up2; rw [if_neg q]
  have hR338 : up2 R 344 n0 1 338 n0 = nI d := by rw [hR2 _ _ (fun q => by omega)]; exact hs0.2.1
  have hR319 : up2 R 344 n0 1 319 p = nI nv := by rw [hR2 _ _ (fun q => by omega)]; exact hPr.2.2.2.1
  have hno : ∀ m, m < nn → R 342 m ≠ nI n0 := by
    rcases (hnd n0 hn0).2.2.2 with ⟨_, _, _, q⟩ | ⟨f, k, q, _⟩
    · exact q
    · rw [hf0] at q; cases q
  have h349 : R 349 n0 = 0 := by
    rcases (hnd n0 hn0).2.2.2 with ⟨_, _, q, _⟩ | ⟨f, k, q, _⟩
    · exact q
    · rw [hf0] at q; cases q
  -- what holds of the nodes so far
  have hnodes : ∀ (I8 A2 J3 : Nat → Nat → Int32) (fb2 : Nat → Option (Nat × Nat)), (∀ j m, j ≠ T + 10 → ¬ (m = c0 ∧ (j = T + 5 ∨ j = T + 6 ∨ j = T + 7)) → A2 j m = A j m) → I8 T 9 = nI kn → J3 318 29 = nI nn → (∀ n, n ≠ n0 → fb2 n = fb n) → TNc A2 (up2 R 344 n0 1) T kn nn fb2 n0 c0 → TT I8 A2 L J3 (up2 R 344 n0 1) T B nv kn nn sv fb2 (fun a => a ≠ n0 ∧ tk a) (fun n => n = n0) := by
    intro I8 A2 J3 fb2 F1 F2 F3 F4 F5
    have hosA : os A2 T kn = os A T kn := os_c (fun c _ => F1 _ _ (by omega) (fun q => by omega))
    have hfi : ∀ m, fi A2 T kn m = fi A T kn m := fun m => by unfold fi; rw [hosA]
    refine ⟨by rw [hosA]; exact hos, F2, F3, hknl, hnv, fun n hn => ?_⟩
    rw [hfi n]
    obtain ⟨a, b, c, e⟩ := hnd n hn
    refine ⟨TNs_c a hnv (F1 _ _ (by omega) (fun q => by omega)) rfl (fun i => F1 _ _ (by omega) (fun q => by omega)) (hR2 _ _ (fun q => by omega)) (fun i _ => hR2 _ _ (fun q => by omega)) (hR2 _ _ (fun q => by omega)) (hR2 _ _ (fun q => by omega)), fun hne => ?_, ?_, ?_⟩
    · have hcn : fi A T kn n ≠ c0 := fun q => hne (fi_inj (A := A) (T := T) (kn := kn) (by rw [hos]; exact hn) (by rw [hos]; exact hn0) (q.trans hc.symm))
      have b := b hne
      unfold TNd stg at b ⊢
      rw [F1 _ _ (by omega) (fun q => hcn q.1), F1 _ _ (by omega) (fun q => hcn q.1), hR2 343 n (fun q => by omega), hR2 344 n (fun q => hne q.2), hR2 345 n (fun q => by omega)]
      exact b
    · unfold TNr at c ⊢
      rw [F1 _ _ (by omega) (fun q => by omega), hR2 342 n (fun q => by omega)]
      rcases c with q | ⟨x, hx, q1, q2⟩
      · exact Or.inl q
      · refine Or.inr ⟨x, hx, q1, ?_⟩
        have hxn : x ≠ n0 := fun r => hno n hn (by rw [q1, r])
        rcases q2 with ⟨q2, q3⟩ | ⟨q2, q3⟩
        · exact Or.inl ⟨⟨hxn, q2⟩, q3⟩
        · exact Or.inr ⟨fun r => q2 r.2, q3⟩
    · by_cases hne : n = n0
      · rw [hne, hc]; exact F5
      · have hcn : fi A T kn n ≠ c0 := fun q => hne (fi_inj (A := A) (T := T) (kn := kn) (by rw [hos]; exact hn) (by rw [hos]; exact hn0) (q.trans hc.symm))
        unfold TNc at e ⊢
        rw [F4 n hne]
        rcases e with ⟨q, q1, q2, q3⟩ | ⟨f, k, e1, e2, e3, e4, e5, e6, e7⟩
        · exact Or.inl ⟨q, by rw [F1 _ _ (by omega) (fun q => hcn q.1)]; exact q1, by rw [hR2 _ _ (fun q => by omega)]; exact q2, fun m hm => by rw [hR2 _ _ (fun q => by omega)]; exact q3 m hm⟩
        · refine Or.inr ⟨f, k, e1, by rw [F1 _ _ (by omega) (fun q => hcn q.1)]; exact e2, e3, e4, fun y hy => ?_, ?_, fun m hm => ?_⟩
          · rw [F1 _ _ (by omega) (fun q => by omega), F1 _ _ (by omega) (fun q => by omega), hR2 _ _ (fun q => by omega), hR2 _ _ (fun q => by omega)]; exact e5 y hy
          · rw [hR2 _ _ (fun q => by omega), e6]
            exact sm_c _ _ _ (fun i _ _ => by rw [F1 _ _ (by omega) (fun q => by omega)])
          · rw [hR2 _ _ (fun q => by omega), hfi m]; exact e7 m hm
  by_cases hfu : d < nv
  · -- there is something below it
    rw [if_pos hfu] at hfull
    obtain ⟨s1, s2, s3⟩ := pr_sz hPr.2.2.1 hfu
    generalize hsz : szo A B d = s at *
    obtain ⟨A22, e22⟩ : ∃ z, z = up2 (cpy (fil A7 (T + 10) 6 (-1)) (T + 10) 0 d (L (T + 1) c0)) (T + 7) c0 (nI kn) := ⟨_, rfl⟩
    have a22 : ∀ j m, j ≠ T + 10 → ¬ (m = c0 ∧ (j = T + 5 ∨ j = T + 6 ∨ j = T + 7)) → A22 j m = A j m := fun j m q1 q2 => by
      rw [e22]
      unfold up2
      rw [if_neg (fun r => q2 ⟨r.2, Or.inr (Or.inr r.1)⟩), cpy_j q1, fil_j q1]
      exact a7 j m (fun r => q2 ⟨r.1, r.2.elim Or.inl (fun r => Or.inr (Or.inl r))⟩)
    have a225 : A22 (T + 5) c0 = 2 := by rw [e22, up2_j (by omega), cpy_j (by omega), fil_j (by omega)]; exact a75
    have a226 : A22 (T + 6) c0 = nI h := by rw [e22, up2_j (by omega), cpy_j (by omega), fil_j (by omega)]; exact a76
    have a227 : A22 (T + 7) c0 = nI kn := by rw [e22, up2_s]
    have hL := hs0.2.2.2.2.2.1
    have arow : ∀ i, i < 6 → A22 (T + 10) i = if i < d then R 339 (6 * n0 + i) else -1 := fun i hi => by
      rw [e22, up2_j (by omega)]
      unfold cpy
      by_cases h1 : i < d
      · rw [if_pos ⟨rfl, by omega, by omega⟩, if_pos h1, Nat.sub_zero, hL, vlo_e8 _ hw6 (by omega) hi]
        exact ((hs0.2.2.2.1 i h1).1).symm
      · rw [if_neg (fun q => by omega), if_neg h1]
        unfold fil
        rw [if_pos ⟨rfl, hi⟩]
    have hfill := t_fill (A := A7) (w := -1) (vsl_at hT) (by omega) (by omega)
    have hcopy := t_copy (A := fil A7 (T + 10) 6 (-1)) (L := L) (f := 0) hT (show c0 < lT T by omega) (vsl_at hT) (show 0 + d ≤ 6 by omega) (by omega) (by omega) (by omega) (by rw [fil_j (by omega)]; exact a72)
    have hcl : f_X5_finish I G A L T (nI c0) (nI h) = f_X5_finish_L85 T G (fun (I31 : Nat → Nat → Int32) (A32 : Nat → Nat → Int32) (L33 : Nat → Nat → Int64) => some (I31, A32, L33)) FU 0 (lN (e8 (wn R n0) d)) (nI d) (up2 I T 10 (nI (dd + 1))) A22 L := by
      simp (disch := omega) only [f_X5_finish, gd_t g0, gd_t g5, gd_t i5, gd_t g6, gd_t i6, gd_t g2, gd_t i2, gd_t g1, gd_t i1, gd_t g7, gd_t i7, t_cl, bd, hd1, nI_1, nb_2, hnb]
      rw [← e7, hfull, Option.bind_some, if_pos rfl, hfill, Option.bind_some]
      have hcopy : f_X5_copyValues (fil A7 (T + 10) 6 (-1)) L T (nI c0) (T + 10) 0 = _ := hcopy
      rw [hcopy, Option.bind_some, a72, up2_k (show (9 : Nat) ≠ 10 by decide), hk9, ns_nI kn (by omega), ← e22, hL, msk_plc _ (e8_lt hw6)]
    have hrf : f_X7_opens J R (nI p) (nI n0) mt = f_X7_opens_L40 (nI p) (nI n0) mt (fun (I12 : Nat → Nat → Int32) (A13 : Nat → Nat → Int32) => some (I12, A13)) FU 0 (nI d) (up2 J 318 30 (nI (dd + 1))) (up2 R 344 n0 1) := by
      simp (disch := omega) only [f_X7_opens, gd_in, t_cl, bd, nz_1, hd2, nI_1, hR338, hR319, t_eq, show ¬ d = nv by omega, if_false]
    have hXI : XI (up2 I T 10 (nI (dd + 1))) A22 L (up2 J 318 30 (nI (dd + 1))) (up2 R 344 n0 1) T B p nv nr d n0 kn 0 nn mt sv fb tk nn := by
      refine ⟨hnodes _ A22 _ _ a22 (by rw [up2_k (by decide)]; exact hk9) (by rw [up2_k (by decide)]; exact hJ29) (fun n hn => by simp only [if_neg hn]) ?_, TPr_of hPr (fun j k h1 h2 => up2_j (by omega)) (fun j k h1 h2 => a22 j k (by omega) (fun q => by omega)) (fun j k h1 h2 => hR2 _ _ (fun q => by omega)), by rw [up2_k (by decide)]; exact hmt, hn0, by rw [dn_c (hR2 338 n0 (fun q => by omega))]; exact hdd, fun i hi => by rw [arow i (by omega), if_pos hi, hR2 _ _ (fun q => by omega)], fun i h1 h2 => by rw [arow i h2, if_neg (by omega)], hfb, fun n h1 h2 => by omega⟩
      refine Or.inr ⟨kn, 0, by simp only [if_true], a227, by omega, by omega, fun y hy => by omega, by rw [hR2 _ _ (fun q => by omega)]; exact h349, fun m hm => ?_⟩
      rw [hR2 _ _ (fun q => by omega)]
      exact ⟨fun q => absurd q (hno m hm), fun q => by omega⟩
    obtain ⟨I', A', L', J', R', nn', q1, q2, q3, q4, q5⟩ := t_exp (k30 := fun (I31 : Nat → Nat → Int32) (A32 : Nat → Nat → Int32) (L33 : Nat → Nat → Int64) => some (I31, A32, L33)) (k11 := fun (I12 : Nat → Nat → Int32) (A13 : Nat → Nat → Int32) => some (I12, A13)) hT hG hfu s3 (by omega) s 0 FU FU nn _ _ _ _ _ _ (by omega) (t_fu _ (by omega)) (t_fu _ (by omega)) hXI (by rw [a22 _ _ (by omega) (fun q => by omega)]; exact s1) rfl
    have ew : e8 (wn (up2 R 344 n0 1) n0) d = e8 (wn R n0) d := (e8_c (fun i _ => wn_c (hR2 _ _ (fun q => by omega)))).1
    rw [ew] at q1
    obtain ⟨x1, x2, x3, x4, x5, x6, x7, x8, x9, x10⟩ := q4
    have hosP : os A' T kn = os A T kn := os_c (fun c hc => (x4 _ _ (by omega) (by omega)).trans (a22 _ _ (by omega) (fun q => by omega)))
    have hpre : ∀ k, os A' T kn <+: os A' T (kn + k) := fun k => by
      induction k with
      | zero => exact List.prefix_rfl
      | succ k ih => rw [← Nat.add_assoc, os_s]; exact ih.trans (List.prefix_append _ _)
    refine ⟨I', A', L', J', R', kn + s, nn', hcl.trans q1, hrf.trans q2, ?_, ?_, ?_, ?_, ?_, ?_, by omega, by omega, q5, ?_, ?_, q3.2.1, q3.2.2.2.2.2.2.2.2⟩
    · rw [if_pos hfu]; exact q3.1
    · rw [x4 _ _ (by omega) (by omega)]; exact a225
    · rw [x4 _ _ (by omega) (by omega)]; exact a226
    · rw [x9 344 n0 (by omega) (by omega) (by omega) hn0, up2_s]
    · rw [x2 10 (by decide), up2_s]
    · rw [x7 318 30 (fun q => by omega), up2_s]
    · intro m hm
      unfold fi
      obtain ⟨t, ht⟩ := hpre s
      rw [← ht, hosP, List.getD_eq_getElem?_getD, List.getElem?_append_left (by rw [hos]; exact hm), ← List.getD_eq_getElem?_getD]
    · refine ⟨fun j k h1 h2 => (x1 j k h1 h2).trans (up2_j h1), fun k h1 h2 => (x2 k h1).trans (up2_k h2), fun j m h1 h2 => (x3 j m h1 h2).trans (a22 j m h2 (fun q => by omega)), fun j m h1 h2 h3 => (x4 j m (by omega) h2).trans (a22 j m h2 (fun q => h3 ⟨q.1, by omega, by omega⟩)), x5, x6, fun j k h1 => (x7 j k (fun q => h1 ⟨q.1, by omega⟩)).trans (by unfold up2; rw [if_neg (fun q => h1 ⟨q.1, by omega⟩)]), fun j m h1 h2 => (x8 j m h1 h2).trans (hR2 j m (fun q => by omega)), fun j m h1 h2 h3 h4 h5 => (x9 j m h1 h2 h3 h4).trans (hR2 j m h5), fun m h1 => (x10 m h1).trans (hR2 _ _ (fun q => by omega))⟩
  · -- it is full
    have hdv : d = nv := by have := hs0.1; omega
    rw [if_neg hfu] at hfull
    have hcl : f_X5_finish I G A L T (nI c0) (nI h) = some (up2 I T 10 (nI (dd + 1)), A7, L) := by
      simp (disch := omega) only [f_X5_finish, gd_t g0, gd_t g5, gd_t i5, gd_t g6, gd_t i6, t_cl, bd, hd1, nI_1, nb_2, hnb]
      rw [← e7, hfull, Option.bind_some, if_neg z10]
    have hrf : f_X7_opens J R (nI p) (nI n0) mt = some (up2 J 318 30 (nI (dd + 1)), up2 R 344 n0 1) := by
      simp (disch := omega) only [f_X7_opens, gd_in, t_cl, bd, nz_1, hd2, nI_1, hR338, hR319, t_eq, hdv, if_true]
    have a7' : ∀ j m, j ≠ T + 10 → ¬ (m = c0 ∧ (j = T + 5 ∨ j = T + 6 ∨ j = T + 7)) → A7 j m = A j m := fun j m q1 q2 => a7 j m (fun r => q2 ⟨r.1, r.2.elim Or.inl (fun r => Or.inr (Or.inl r))⟩)
    refine ⟨_, A7, L, _, _, kn, nn, hcl, hrf, hnodes _ A7 _ _ a7' (by rw [up2_k (by decide)]; exact hk9) (by rw [up2_k (by decide)]; exact hJ29) (fun n hn => by simp only [if_neg hn]) ?_, a75, a76, up2_s _ _ _ _, up2_s _ _ _ _, up2_s _ _ _ _, Nat.le_refl _, by omega, Nat.le_refl _, fun m _ => ?_, ?_, TPr_of hPr (fun j k h1 h2 => up2_j (by omega)) (fun j k h1 h2 => a7 j k (fun q => by omega)) (fun j k h1 h2 => hR2 _ _ (fun q => by omega)), fun n h1 h2 => by omega⟩
    · rcases (hnd n0 hn0).2.2.2 with ⟨q0, q1, q2, q3⟩ | ⟨f, k, q, _⟩
      · rw [hc] at q1
        exact Or.inl ⟨by simp only [if_true, if_neg hfu], by rw [a7 _ _ (fun q => by omega)]; exact q1, by rw [hR2 _ _ (fun q => by omega)]; exact q2, fun m hm => by rw [hR2 _ _ (fun q => by omega)]; exact q3 m hm⟩
      · rw [hf0] at q; cases q
    · unfold fi
      rw [os_c (A := A) (A' := A7) (fun c _ => a7 _ _ (fun q => by omega))]
    · exact ⟨fun j k h1 h2 => up2_j h1, fun k h1 h2 => up2_k h2, fun j m h1 h2 => a7 j m (fun q => by omega), fun j m h1 h2 h3 => a7 j m (fun q => h3 ⟨q.1, by omega, by omega⟩), fun _ _ _ => rfl, fun _ _ => rfl, fun j k h1 => by unfold up2; rw [if_neg (fun q => h1 ⟨q.1, by omega⟩)], fun j m h1 h2 => hR2 j m (fun q => by omega), fun j m h1 h2 h3 h4 h5 => hR2 j m h5, fun m h1 => hR2 _ _ (fun q => by omega)⟩
end FN
