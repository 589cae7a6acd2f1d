/-! THE TIE: the walk takes a node -/
/-- below every done node that isn't full all are known -/
def FC (A R : Nat → Nat → Int32) (B nv nn : Nat) (fb : Nat → Option (Nat × Nat)) : Prop := (∀ n, nn ≤ n → fb n = none) ∧ ∀ n, n < nn → (fb n = none ∧ ¬ (R 344 n = 1 ∧ dn R n < nv)) ∨ ∃ f, fb n = some (f, szo A B (dn R n)) ∧ R 344 n = 1 ∧ dn R n < nv
section TK
variable {I A : Nat → Nat → Int32} {L : Nat → Nat → Int64} {J R : Nat → Nat → Int32} {T B p nv nr n0 kn nn t : Nat} {mt : Int32} {sv : Prop} {fb : Nat → Option (Nat × Nat)} {tk ex : Nat → Prop} {G : Nat → Nat → Nat}
theorem TT_ex {ex' : Nat → Prop} (h : TT I A L J R T B nv kn nn sv fb tk ex) (he : ∀ n, ex n → ex' n) : TT I A L J R T B nv kn nn sv fb tk ex' := by
  obtain ⟨a, b, c, d, e, f⟩ := h
  refine ⟨a, b, c, d, e, fun n hn => ?_⟩
  obtain ⟨g1, g2, g3, g4⟩ := f n hn
  exact ⟨g1, fun q => g2 (fun r => q (he n r)), g3, g4⟩
theorem TNc_c {A' R' : Nat → Nat → Int32} {n c : Nat} (h : TNc A R T kn nn fb n c) (h3 : ∀ m, A' (T + 3) m = A (T + 3) m) (h4 : ∀ m, A' (T + 4) m = A (T + 4) m) (h7 : A' (T + 7) c = A (T + 7) c) (hR : ∀ m, m < nn → R' 342 m = R 342 m) (hR2 : ∀ m, R' 347 m = R 347 m) (hR3 : ∀ m, R' 348 m = R 348 m) (hR4 : R' 349 n = R 349 n) : TNc A' R' T kn nn fb n c := by
  have hfi : ∀ m, fi A' T kn m = fi A T kn m := fun m => by unfold fi; rw [os_c (A := A) (A' := A') (fun c _ => h3 c)]
  unfold TNc at h ⊢
  rcases h with ⟨q, q1, q2, q3⟩ | ⟨f, k, e1, e2, e3, e4, e5, e6, e7⟩
  · exact Or.inl ⟨q, by rw [h7]; exact q1, by rw [hR4]; exact q2, fun m hm => by rw [hR m hm]; exact q3 m hm⟩
  · refine Or.inr ⟨f, k, e1, by rw [h7]; exact e2, e3, e4, fun y hy => by rw [h3, h4, hR2, hR3]; exact e5 y hy, ?_, fun m hm => by rw [hR m hm, hfi m]; exact e7 m hm⟩
    rw [hR4, e6]
    exact sm_c _ _ _ (fun i _ _ => by rw [h3])
/-- the reference's part -/
theorem t_tk0 (hX : TT I A L J R T B nv kn nn sv fb (fun a => ¬ R 345 a = 0) (fun _ => False)) (hT : TrAt T) (hn0 : n0 < nn) (h0 : R 345 n0 = 0) (ht : t < 250) (hJ : J 318 31 = nI t) : f_X7_takes J R (nI n0) = some (up2 J 318 31 (nI (t + 1)), up2 (up2 R 345 n0 1) 346 t (nI n0)) ∧ TT I A L (up2 J 318 31 (nI (t + 1))) (up2 (up2 R 345 n0 1) 346 t (nI n0)) T B nv kn nn sv fb (fun a => a ≠ n0 ∧ ¬ R 345 a = 0) (fun n => n = n0) := by
  have hnn := (tt_nn hT hX).2
  constructor
  · simp (disch := omega) only [f_X7_takes, gd_in, t_cl, bd, nz_1, hJ, nI_1]
  · obtain ⟨a, b, c, d, e, f⟩ := hX
    have hR : ∀ j m, j ≠ 345 → j ≠ 346 → up2 (up2 R 345 n0 1) 346 t (nI n0) j m = R j m := fun j m h1 h2 => by rw [up2_j h2, up2_j h1]
    refine ⟨a, b, by rw [up2_k (by decide)]; exact c, d, e, fun n hn => ?_⟩
    obtain ⟨g1, g2, g3, g4⟩ := f n hn
    refine ⟨TNs_c g1 e rfl rfl (fun _ => rfl) (hR _ _ (by decide) (by decide)) (fun _ _ => hR _ _ (by decide) (by decide)) (hR _ _ (by decide) (by decide)) (hR _ _ (by decide) (by decide)), fun hne => ?_, ?_, TNc_c g4 (fun _ => rfl) (fun _ => rfl) rfl (fun _ _ => hR _ _ (by decide) (by decide)) (fun _ => hR _ _ (by decide) (by decide)) (fun _ => hR _ _ (by decide) (by decide)) (hR _ _ (by decide) (by decide))⟩
    · have g2 := g2 (fun q => q)
      unfold TNd stg at g2 ⊢
      rw [hR 343 n (by decide) (by decide), hR 344 n (by decide) (by decide), up2_j (show (345 : Nat) ≠ 346 by decide), up2_k hne]
      exact g2
    · unfold TNr at g3 ⊢
      rw [hR 342 n (by decide) (by decide)]
      rcases g3 with q | ⟨x, hx, q1, q2⟩
      · exact Or.inl q
      · refine Or.inr ⟨x, hx, q1, ?_⟩
        rcases q2 with ⟨q2, q3⟩ | ⟨q2, q3⟩
        · exact Or.inl ⟨⟨fun r => q2 (by rw [r]; exact h0), q2⟩, q3⟩
        · exact Or.inr ⟨fun r => q2 r.2, q3⟩
/-- the class's part -/
theorem t_tk1 (hX : TT I A L J R T B nv kn nn sv fb (fun a => a ≠ n0 ∧ tk a) (fun n => n = n0)) (hT : TrAt T) (hG : G T 14 = B) (hPr : TPr I A R p B nv nr) (hF : FC A R B nv nn fb) (hn0 : n0 < nn) (h5 : R 345 n0 = 1) (h4 : R 344 n0 = 1) (hsv : sv → (∃ h, h < 5 ∧ R 343 n0 = nI h) ∧ A (T + 6) (fi A T kn n0) = R 343 n0) (htk : ∀ a, a < nn → a ≠ n0 → (tk a ↔ ¬ R 345 a = 0)) (ht : t < 250) (hI : I T 11 = nI t) : ∃ A', f_X5_take I G A T (nI (fi A T kn n0)) = some (up2 I T 11 (nI (t + 1)), A') ∧ TT (up2 I T 11 (nI (t + 1))) A' L J R T B nv kn nn sv fb (fun a => ¬ R 345 a = 0) (fun _ => False) ∧ (∀ j m, j ≠ T + 5 → j ≠ T + 8 → j ≠ T + 9 → A' j m = A j m) ∧ (∀ m, m ≠ t → A' (T + 9) m = A (T + 9) m) ∧ A' (T + 9) t = nI (fi A T kn n0) := by
  have hT58 := (tr_o hT).1
  have hB58 := pr_ge (tp_at hPr)
  have hlT := (tr_l hT).2.2.2.2.2.2.2.2.2.2.2
  obtain ⟨hos, hk9, hJ29, hknl, hnv, hnd⟩ := hX
  have hnn1 : nn ≤ kn := by rw [← hos]; exact os_le _ _ _
  have hc0 := (fi_mem (A := A) (T := T) (kn := kn) (n := n0) (by rw [hos]; exact hn0)).1
  obtain ⟨s0, _, _, s3⟩ := hnd n0 hn0
  have hdn6 : dn R n0 ≤ 6 := by have := s0.1; omega
  -- what is below it
  have hbel : ∃ f wd, wdo G A T (fi A T kn n0) = wd ∧ wd ≤ 6 ∧ Bel A T B (fi A T kn n0) f wd ∧ (A (T + 7) (fi A T kn n0)).toNatClampNeg = f ∧ ∀ m, m < nn → (R 342 m = nI n0 ↔ f ≤ fi A T kn m ∧ fi A T kn m < f + wd) := by
    unfold wdo
    rcases s3 with ⟨q, q1, q2, q3⟩ | ⟨f, k, e1, e2, e3, e4, e5, e6, e7⟩
    · refine ⟨_, 0, by rw [if_pos q1], by omega, Or.inl ⟨q1, rfl⟩, rfl, fun m hm => ⟨fun r => absurd r (q3 m hm), fun r => by omega⟩⟩
    · have hk : k = szo A B (dn R n0) ∧ dn R n0 < nv := by
        rcases hF.2 n0 hn0 with ⟨r, _⟩ | ⟨f', r, _, r2⟩
        · rw [r] at e1; cases e1
        · rw [r] at e1; cases e1; exact ⟨rfl, r2⟩
      have hsz := pr_sz hPr.2.2.1 hk.2
      have hm1 : ¬ A (T + 7) (fi A T kn n0) = -1 := by rw [e2]; exact t_m1 (by omega)
      refine ⟨f, k, ?_, e3, Or.inr ⟨hm1, e2, by omega, ?_, ?_⟩, by rw [e2]; exact t_cl (by omega), e7⟩
      · rw [if_neg hm1, hG, s0.2.2.1, t_cl (by omega), hk.1]; rfl
      · rw [s0.2.2.1]; exact vp_in_nI (by omega) (by omega)
      · rw [s0.2.2.1, t_cl (by omega), hk.1]; exact hsz.1
  obtain ⟨f, wd, w1, w2, w3, w4, w5⟩ := hbel
  have e1 : (nI (fi A T kn n0)).toNatClampNeg = fi A T kn n0 := t_cl (by omega)
  have e2 : (I T 11).toNatClampNeg = t := by rw [hI]; exact t_cl (by omega)
  obtain ⟨A', eA⟩ : ∃ z, z = rea (tkA A T (fi A T kn n0) t) T f wd := ⟨_, rfl⟩
  have hA : ∀ j m, j ≠ T + 5 → j ≠ T + 8 → j ≠ T + 9 → A' j m = A j m := fun j m q1 q2 q3 => by rw [eA, rea_j q2, tkA_j q1 q3]
  have hA5 : ∀ m, m ≠ fi A T kn n0 → A' (T + 5) m = A (T + 5) m := fun m q => by
    rw [eA, rea_j (by omega)]; unfold tkA; rw [up2_j (by omega), up2_k q]
  have hA5' : A' (T + 5) (fi A T kn n0) = 3 := by
    rw [eA, rea_j (by omega)]; unfold tkA; rw [up2_j (by omega), up2_s]; exact nb_3
  have hA8 : ∀ m, A' (T + 8) m = if f ≤ m ∧ m < f + wd then 1 else A (T + 8) m := fun m => by
    rw [eA]; unfold rea
    by_cases q : f ≤ m ∧ m < f + wd
    · rw [if_pos ⟨rfl, q⟩, if_pos q]; exact nz_1
    · rw [if_neg (fun r => q r.2), if_neg q, tkA_j (by omega) (by omega)]
  have hosA : os A' T kn = os A T kn := os_c (fun c _ => hA _ _ (by omega) (by omega) (by omega))
  have hfi : ∀ m, fi A' T kn m = fi A T kn m := fun m => by unfold fi; rw [hosA]
  refine ⟨A', ?_, ⟨by rw [hosA]; exact hos, by rw [up2_k (by decide)]; exact hk9, hJ29, hknl, hnv, fun n hn => ?_⟩, hA, fun m q => ?_, ?_⟩
  · unfold f_X5_take
    rw [gd_t ⟨hT, by rw [e1]; omega, by rw [hG]; exact tp_at hPr, by rw [e1, w1]; exact w2, by rw [e2]; exact ht, by rw [e1, hG, w1, w4]; exact w3, by rw [e2]; exact hI, by rw [e1]⟩, e1, e2, w1, w4, ← eA, nI_1]
  · rw [hfi n]
    obtain ⟨g1, g2, g3, g4⟩ := hnd n hn
    refine ⟨TNs_c g1 hnv (hA _ _ (by omega) (by omega) (by omega)) rfl (fun _ => hA _ _ (by omega) (by omega) (by omega)) rfl (fun _ _ => rfl) rfl rfl, fun _ => ?_, ?_, TNc_c g4 (fun _ => hA _ _ (by omega) (by omega) (by omega)) (fun _ => hA _ _ (by omega) (by omega) (by omega)) (hA _ _ (by omega) (by omega) (by omega)) (fun _ _ => rfl) (fun _ => rfl) (fun _ => rfl) rfl⟩
    · by_cases hne : n = n0
      · subst hne
        unfold TNd stg
        rw [hA5', h5, if_neg z10, h4]
        refine ⟨rfl, Or.inr rfl, Or.inr rfl, fun _ => rfl, fun q => ?_⟩
        obtain ⟨⟨h, r1, r2⟩, r3⟩ := hsv q
        refine ⟨Or.inr ⟨h, r1, r2⟩, fun _ => ⟨by rw [r2]; exact t_m9 (by omega), by rw [hA _ _ (by omega) (by omega) (by omega)]; exact r3⟩⟩
      · have hcn : fi A T kn n ≠ fi A T kn n0 := fun q => hne (fi_inj (A := A) (T := T) (kn := kn) (by rw [hos]; exact hn) (by rw [hos]; exact hn0) q)
        have g2 := g2 hne
        unfold TNd at g2 ⊢
        rw [hA5 _ hcn, hA _ _ (by omega) (by omega) (by omega)]
        exact g2
    · unfold TNr at g3 ⊢
      rw [hA8]
      rcases g3 with ⟨q, q1⟩ | ⟨x, hx, q1, q2⟩
      · refine Or.inl ⟨q, ?_⟩
        split
        · rfl
        · exact q1
      · refine Or.inr ⟨x, hx, q1, ?_⟩
        by_cases hxn : x = n0
        · have := (w5 n hn).mp (by rw [q1, hxn])
          rw [if_pos this]
          exact Or.inl ⟨by show ¬ R 345 x = 0; rw [hxn, h5]; exact z10, rfl⟩
        · have hno : ¬ (f ≤ fi A T kn n ∧ fi A T kn n < f + wd) := fun r => by
            have := (w5 n hn).mpr r
            rw [q1, t_eq (by omega) (by omega)] at this
            exact hxn this
          rw [if_neg hno]
          rcases q2 with ⟨q2, q3⟩ | ⟨q2, q3⟩
          · exact Or.inl ⟨(htk x (by omega) hxn).mp q2.2, q3⟩
          · exact Or.inr ⟨fun r => q2 ⟨hxn, (htk x (by omega) hxn).mpr r⟩, q3⟩
  · rw [eA, rea_j (by omega)]; unfold tkA; rw [up2_k q, up2_j (by omega)]
  · rw [eA, rea_j (by omega)]; unfold tkA; rw [up2_s]
end TK
