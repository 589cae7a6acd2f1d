/-! THE TIE: turns -/
/-- how many helpers hold a node -/
def hc (A : Nat → Nat → Int32) : Nat := (if A 15 0 = -1 then 0 else 1) + (if A 15 1 = -1 then 0 else 1) + (if A 15 2 = -1 then 0 else 1) + (if A 15 3 = -1 then 0 else 1) + (if A 15 4 = -1 then 0 else 1)
/-- helper h: what it holds; what it had and when it is to fail; what is told of it -/
def THo (A R : Nat → Nat → Int32) (T kn nn h : Nat) : Prop := (A 15 h = -1 ∧ R 337 h = -9) ∨ ∃ n, n < nn ∧ A 15 h = nI (fi A T kn n) ∧ R 337 h = nI n ∧ R 343 n = nI h ∧ R 344 n = 0
def THa (A R : Nat → Nat → Int32) (E hb h : Nat) : Prop := ∃ q f, q ≤ hb ∧ A 16 h = nI q ∧ R 336 h = nI q ∧ (¬ A 15 h = -1 → 1 ≤ q) ∧ f ≤ 200 ∧ A (E + 1) h = nI f ∧ (R 335 h = nI f ∨ (R 335 h = 0 ∧ (f < q ∨ (A 15 h = -1 ∧ f ≤ q))))
def THt (A R : Nat → Nat → Int32) (E h : Nat) : Prop := A (E + 3) h = R 334 h ∧ A (E + 4) h = R 332 h ∧ A (E + 5) h = R 333 h
/-- the team: z helpers, sc turns in the schedule -/
def TTe (I A J R : Nat → Nat → Int32) (E z sc : Nat) : Prop := I E 0 = nI z ∧ J 318 15 = nI z ∧ 1 ≤ z ∧ z ≤ 5 ∧ I E 1 = nI sc ∧ J 318 18 = nI sc ∧ sc ≤ 200 ∧ ∀ i, i < sc → A (E + 2) i = R 331 i ∧ ∃ x, x < 5 ∧ R 331 i = nI x
def TSv (I : Nat → Nat → Int32) (G : Nat → Nat → Nat) (A : Nat → Nat → Int32) (L : Nat → Nat → Int64) (J R : Nat → Nat → Int32) (T E p B nv nr kn nn dd tk tn hb z sc : Nat) (fb : Nat → Option (Nat × Nat)) : Prop :=
  TSw I G A L J R T p B nv nr kn nn dd tk 1 True fb ∧ TeAt E ∧ G 14 0 = T ∧ G 14 1 = E ∧ kn ≤ 1 + 6 * dd ∧ dd + hc A ≤ tk + 34 ∧ (∀ h, h < 5 → THo A R T kn nn h ∧ THa A R E hb h ∧ THt A R E h) ∧ TTe I A J R E z sc ∧ I 14 2 = J 318 24 ∧ I 14 3 = nI tn ∧ J 318 28 = nI tn ∧ T < 46 ∧ tk ≤ 250
/-- what a turn leaves as it was -/
def XT (T E : Nat) (I A : Nat → Nat → Int32) (L : Nat → Nat → Int64) (J R I' A' : Nat → Nat → Int32) (L' : Nat → Nat → Int64) (J' R' : Nat → Nat → Int32) : Prop := (∀ j k, j ≠ T → j ≠ T + 11 → ¬ (j = 14 ∧ k = 3) → I' j k = I j k) ∧ (∀ k, k ≠ 9 → k ≠ 10 → k ≠ 11 → I' T k = I T k) ∧ (∀ j m, j ≠ 15 → j ≠ 16 → j ≠ E + 3 → j ≠ E + 4 → j ≠ E + 5 → (j < T + 2 ∨ T + 10 < j) → A' j m = A j m) ∧ (∀ j m, j ≠ T + 1 → L' j m = L j m) ∧ (∀ j k, ¬ (j = 318 ∧ (k = 28 ∨ k = 29 ∨ k = 30 ∨ k = 31 ∨ k = 64 ∨ k = 65)) → J' j k = J j k) ∧ (∀ j m, (j < 332 ∨ 349 < j) → j ≠ 364 → R' j m = R j m)
theorem XT_tr {T E : Nat} {I A : Nat → Nat → Int32} {L : Nat → Nat → Int64} {J R I1 A1 : Nat → Nat → Int32} {L1 : Nat → Nat → Int64} {J1 R1 I2 A2 : Nat → Nat → Int32} {L2 : Nat → Nat → Int64} {J2 R2 : Nat → Nat → Int32} (a : XT T E I A L J R I1 A1 L1 J1 R1) (b : XT T E I1 A1 L1 J1 R1 I2 A2 L2 J2 R2) : XT T E I A L J R I2 A2 L2 J2 R2 := by
  obtain ⟨a1, a2, a3, a4, a5, a6⟩ := a
  obtain ⟨b1, b2, b3, b4, b5, b6⟩ := b
  exact ⟨fun j k h1 h2 h3 => (b1 j k h1 h2 h3).trans (a1 j k h1 h2 h3), fun k h1 h2 h3 => (b2 k h1 h2 h3).trans (a2 k h1 h2 h3), fun j m h1 h2 h3 h4 h5 h6 => (b3 j m h1 h2 h3 h4 h5 h6).trans (a3 j m h1 h2 h3 h4 h5 h6), fun j m h => (b4 j m h).trans (a4 j m h), fun j k h => (b5 j k h).trans (a5 j k h), fun j m h1 h2 => (b6 j m h1 h2).trans (a6 j m h1 h2)⟩
theorem XT_rf {T E : Nat} {I A : Nat → Nat → Int32} {L : Nat → Nat → Int64} {J R : Nat → Nat → Int32} : XT T E I A L J R I A L J R := ⟨fun _ _ _ _ _ => rfl, fun _ _ _ _ => rfl, fun _ _ _ _ _ _ _ _ => rfl, fun _ _ _ => rfl, fun _ _ _ => rfl, fun _ _ _ _ => rfl⟩
theorem XT_w {T E : Nat} {I A : Nat → Nat → Int32} {L : Nat → Nat → Int64} {J R I' A' J' R' : Nat → Nat → Int32} (h : XW T I A J R I' A' J' R') : XT T E I A L J R I' A' L J' R' := by
  obtain ⟨a1, a2, a3, a4, a5⟩ := h
  exact ⟨fun j k h1 _ _ => a1 j k (fun q => h1 q.1), fun k _ _ h3 => a1 T k (fun q => h3 q.2), fun j m _ _ _ _ _ h => a2 j m (by omega) (by omega) (by omega), fun _ _ _ => rfl, fun j k h => a3 j k (fun q => h ⟨q.1, by omega⟩), fun j m h1 _ => a4 j m (by omega) (by omega)⟩
section TN
variable {I A : Nat → Nat → Int32} {L : Nat → Nat → Int64} {J R : Nat → Nat → Int32} {T E p B nv nr kn nn dd tk tn hb z sc hh : Nat} {fb : Nat → Option (Nat × Nat)} {G : Nat → Nat → Nat}
theorem TT_fr {sv : Prop} {ex : Nat → Prop} {I' A' : Nat → Nat → Int32} {L' : Nat → Nat → Int64} {J' R' : Nat → Nat → Int32} (h : TT I A L J R T B nv kn nn sv fb (fun a => ¬ R 345 a = 0) ex) (h1 : I' T 9 = I T 9) (h2 : ∀ j m, T + 2 ≤ j → j ≤ T + 8 → A' j m = A j m) (h3 : ∀ m, A' (B + 1) m = A (B + 1) m) (h4 : ∀ m, L' (T + 1) m = L (T + 1) m) (h5 : J' 318 29 = J 318 29) (h6 : ∀ j m, 338 ≤ j → j ≤ 349 → j ≠ 346 → R' j m = R j m) : TT I' A' L' J' R' T B nv kn nn sv fb (fun a => ¬ R' 345 a = 0) ex := by
  obtain ⟨a, b, c, d, e, f⟩ := h
  have hos : os A' T kn = os A T kn := os_c (fun c _ => h2 _ _ (by omega) (by omega))
  have hfi : ∀ m, fi A' T kn m = fi A T kn m := fun m => by unfold fi; rw [hos]
  refine ⟨by rw [hos]; exact a, by rw [h1]; exact b, by rw [h5]; exact c, d, e, fun n hn => ?_⟩
  rw [hfi n]
  obtain ⟨g1, g2, g3, g4⟩ := f n hn
  refine ⟨TNs_c g1 e (h2 _ _ (by omega) (by omega)) (h4 _) h3 (h6 _ _ (by decide) (by decide) (by decide)) (fun _ _ => h6 _ _ (by decide) (by decide) (by decide)) (h6 _ _ (by decide) (by decide) (by decide)) (h6 _ _ (by decide) (by decide) (by decide)), fun q => ?_, ?_, TNc_c g4 (fun _ => h2 _ _ (by omega) (by omega)) (fun _ => h2 _ _ (by omega) (by omega)) (h2 _ _ (by omega) (by omega)) (fun _ _ => h6 _ _ (by decide) (by decide) (by decide)) (fun _ => h6 _ _ (by decide) (by decide) (by decide)) (fun _ => h6 _ _ (by decide) (by decide) (by decide)) (h6 _ _ (by decide) (by decide) (by decide))⟩
  · have g2 := g2 q
    unfold TNd stg at g2 ⊢
    rw [h2 _ _ (by omega) (by omega), h2 _ _ (by omega) (by omega), h6 343 n (by decide) (by decide) (by decide), h6 344 n (by decide) (by decide) (by decide), h6 345 n (by decide) (by decide) (by decide)]
    exact g2
  · unfold TNr at g3 ⊢
    rw [h2 _ _ (by omega) (by omega), h6 342 n (by decide) (by decide) (by decide)]
    simp only [fun a => h6 345 a (by decide) (by decide) (by decide)]
    exact g3
theorem hc_le (A : Nat → Nat → Int32) : hc A ≤ 5 := by
  unfold hc
  repeat' split
  all_goals omega
theorem hc_up {A' : Nat → Nat → Int32} (hh5 : hh < 5) (h : ∀ m, m ≠ hh → A' 15 m = A 15 m) : hc A' + (if A 15 hh = -1 then 0 else 1) = hc A + (if A' 15 hh = -1 then 0 else 1) := by
  unfold hc
  obtain rfl | rfl | rfl | rfl | rfl : hh = 0 ∨ hh = 1 ∨ hh = 2 ∨ hh = 3 ∨ hh = 4 := by omega
  · rw [h 1 (by decide), h 2 (by decide), h 3 (by decide), h 4 (by decide)]; omega
  · rw [h 0 (by decide), h 2 (by decide), h 3 (by decide), h 4 (by decide)]; omega
  · rw [h 0 (by decide), h 1 (by decide), h 3 (by decide), h 4 (by decide)]; omega
  · rw [h 0 (by decide), h 1 (by decide), h 2 (by decide), h 4 (by decide)]; omega
  · rw [h 0 (by decide), h 1 (by decide), h 2 (by decide), h 3 (by decide)]; omega
theorem tegd (hE : TeAt E) : (E < 318 ∧ kd E = 4) ∧ (E + 1 < 318 ∧ kd (E + 1) = 8) ∧ (E + 3 < 318 ∧ kd (E + 3) = 8) ∧ (E + 4 < 318 ∧ kd (E + 4) = 8) ∧ (E + 5 < 318 ∧ kd (E + 5) = 8) ∧ ln (E + 1) = 5 ∧ ln (E + 3) = 5 ∧ ln (E + 4) = 5 ∧ ln (E + 5) = 5 := by
  obtain ⟨h, h0, h1, h2, h3, h4, h5, l1, l2, l3, l4, l5⟩ := te_o hE
  exact ⟨⟨by omega, h0⟩, ⟨by omega, h1⟩, ⟨by omega, h3⟩, ⟨by omega, h4⟩, ⟨by omega, h5⟩, l1, l3, l4, l5⟩
/-- a turn of a helper that has no node -/
theorem t_pick (h : TSv I G A L J R T E p B nv nr kn nn dd tk tn hb z sc fb) (hh5 : hh < 5) (hno : A 15 hh = -1) (hb30 : hb < 1073741824) : ∃ A' R', f_X3_pick I G A L (nI hh) = some A' ∧ f_X7_turnOf J R (nI p) (nI hh) = some (J, R') ∧ TSv I G A' L J R' T E p B nv nr kn nn dd tk tn (hb + 1) z sc fb ∧ XT T E I A L J R I A' L J R' := by
  obtain ⟨⟨hT, hG, hPr, hmt, hX, hF, hd1, hd2, ht1, ht2, hw⟩, hE, hGT, hGE, hkn, hhc, hH, hTe, hlim, htn1, htn2, hT46, ht250⟩ := h
  have hT58 := (tr_o hT).1
  have hT22 : 22 ≤ T := by rcases hT with h | h | h <;> omega
  have hE14 := (te_o hE).1
  have hE2 : 2 ≤ E := by rcases hE with h | h <;> omega
  have hB58 := pr_ge (tp_at hPr)
  have hlT := (tr_l hT).2.2.2.2.2.2.2.2.2.2.2
  have hnn := tt_nn hT hX
  have hknl := hX.2.2.2.1
  obtain ⟨g0, g1, g2, g3, g4, g5, g6, g7, g8, g9, g10, g11⟩ := tgd hT
  obtain ⟨k0, k1, k3, k4, k5, l1, l3, l4, l5⟩ := tegd hE
  have hR337 : R 337 hh = -9 := by
    rcases (hH hh hh5).1 with ⟨_, q⟩ | ⟨n, n1, n2, _⟩
    · exact q
    · rw [n2] at hno
      have hc := (fi_mem (A := A) (T := T) (kn := kn) (n := n) (by rw [hX.1]; exact n1)).1
      exact absurd hno (t_m1 (by omega))
  have hsc := r_free_L (J := J) (R := R) (nn := nn) (a2 := nI hh) (k21 := fun (v22 : Int32) => if v22 = (-9) then (some (J, up2 R 332 hh (R 332 hh + 1))) else (if ((J 318 30) - (J 318 31)) < 30 then (gd (inr v22 2000) <| some (J, up2 (up2 (up2 R 337 hh v22) 343 v22.toNatClampNeg (nI hh)) 336 hh ((up2 (up2 R 337 hh v22) 343 v22.toNatClampNeg (nI hh)) 336 hh + 1))) else some (J, up2 R 332 hh (R 332 hh + 1)))) (by omega) hX.2.2.1 nn 0 FU none (by omega) (t_fu _ (by omega)) (fun j hj => by cases hj)
  have hrf : f_X7_turnOf J R (nI p) (nI hh) = (if enc (-9) (nxf R nn) = (-9) then (some (J, up2 R 332 hh (R 332 hh + 1))) else (if ((J 318 30) - (J 318 31)) < 30 then (gd (inr (enc (-9) (nxf R nn)) 2000) <| some (J, up2 (up2 (up2 R 337 hh (enc (-9) (nxf R nn))) 343 (enc (-9) (nxf R nn)).toNatClampNeg (nI hh)) 336 hh ((up2 (up2 R 337 hh (enc (-9) (nxf R nn))) 343 (enc (-9) (nxf R nn)).toNatClampNeg (nI hh)) 336 hh + 1))) else some (J, up2 R 332 hh (R 332 hh + 1)))) := by
    simp (disch := omega) only [f_X7_turnOf, gd_in, t_cl, hR337, if_true, bd]
    exact hsc
  have hnf := t_nxf hX trivial hT
  -- an idle turn
  have hidle : ∃ A' R', (some (up2 A (E + 4) hh (A (E + 4) hh + 1)) : Option (Nat → Nat → Int32)) = some A' ∧ (some (J, up2 R 332 hh (R 332 hh + 1)) : Option ((Nat → Nat → Int32) × (Nat → Nat → Int32))) = some (J, R') ∧ TSv I G A' L J R' T E p B nv nr kn nn dd tk tn (hb + 1) z sc fb ∧ XT T E I A L J R I A' L J R' := by
    have hA : ∀ j m, j ≠ E + 4 → up2 A (E + 4) hh (A (E + 4) hh + 1) j m = A j m := fun j m q => up2_j q
    have hR : ∀ j m, j ≠ 332 → up2 R 332 hh (R 332 hh + 1) j m = R j m := fun j m q => up2_j q
    have hfi : fi (up2 A (E + 4) hh (A (E + 4) hh + 1)) T kn = fi A T kn := by funext m; unfold fi; rw [os_c (A := A) (fun c _ => hA _ _ (by omega))]
    refine ⟨_, _, rfl, rfl, ⟨⟨hT, hG, TPr_of hPr (fun _ _ _ _ => rfl) (fun j k h1 h2 => hA j k (by omega)) (fun j k h1 h2 => hR j k (by omega)), hmt, TT_fr hX rfl (fun j m h1 h2 => hA j m (by omega)) (fun m => hA _ _ (by omega)) (fun _ => rfl) rfl (fun j m h1 h2 h3 => hR j m (by omega)), FC_c hF (fun m => hA _ _ (by omega)) (fun n _ => hR _ _ (by decide)) (fun n _ => hR _ _ (by decide)), hd1, hd2, ht1, ht2, fun i hi => ?_⟩, hE, hGT, hGE, hkn, ?_, fun x hx => ?_, ?_, hlim, htn1, htn2, hT46, ht250⟩, ⟨fun _ _ _ _ _ => rfl, fun _ _ _ _ => rfl, fun j m h1 h2 h3 h4 h5 h6 => hA j m h4, fun _ _ _ => rfl, fun _ _ _ => rfl, fun j m h1 h2 => hR j m (by omega)⟩⟩
    · rw [hfi, hA _ _ (by omega), hR _ _ (by decide)]
      obtain ⟨m, m1, m2, m3, m4⟩ := hw i hi
      exact ⟨m, m1, m2, by rw [hR _ _ (by decide)]; exact m3, m4⟩
    · have e : hc (up2 A (E + 4) hh (A (E + 4) hh + 1)) = hc A := by
        unfold hc; simp only [hA 15 _ (by omega)]
      omega
    · obtain ⟨c1, ⟨q, f, c2, c3, c4, c5, c6, c7, c8⟩, c9, c10, c11⟩ := hH x hx
      unfold THo THa THt
      rw [hfi, hA 15 x (by omega), hA 16 x (by omega), hA (E + 1) x (by omega), hA (E + 3) x (by omega), hA (E + 5) x (by omega), hR 337 x (by decide), hR 336 x (by decide), hR 335 x (by decide), hR 334 x (by decide), hR 333 x (by decide)]
      refine ⟨?_, ⟨q, f, by omega, c3, c4, c5, c6, c7, c8⟩, c9, ?_, c11⟩
      · rcases c1 with c1 | ⟨n, n1, n2, n3, n4, n5⟩
        · exact Or.inl c1
        · exact Or.inr ⟨n, n1, n2, n3, by rw [hR _ _ (by decide)]; exact n4, by rw [hR _ _ (by decide)]; exact n5⟩
      · by_cases hxh : x = hh
        · subst hxh; rw [up2_s, up2_s, c10]
        · rw [up2_k hxh, up2_k hxh]; exact c10
    · obtain ⟨c1, c2, c3, c4, c5, c6, c7, c8⟩ := hTe
      exact ⟨c1, c2, c3, c4, c5, c6, c7, fun i hi => by rw [hA _ _ (by omega), hR _ _ (by decide)]; exact c8 i hi⟩
  by_cases h30 : nI dd - nI tk < 30
  · cases hnx : nxf R nn with
    | none =>
      have hcl : f_X3_pick I G A L (nI hh) = some (up2 A (E + 4) hh (A (E + 4) hh + 1)) := by
        simp (disch := omega) only [f_X3_pick, hGT, hGE, gd_t g0, bd, hd1, ht1, if_pos h30, if_true, hnf, hnx, Option.bind_some, Option.map_none, enc, gd_t k0, gd_t k4, l4, gd_in, t_cl]
      rw [hcl, hrf, hnx, if_pos (show enc (-9) none = -9 from rfl)]
      exact hidle
    | some n =>
      obtain ⟨o1, o2⟩ := nxf_o hnx
      obtain ⟨s1, s2, s3, s4⟩ := hX.2.2.2.2.2 n o1
      have s2 := s2 (fun q => q)
      have hn44 : R 344 n = 0 := s2.2.1.resolve_right (fun r => (s2.2.2.2.2 trivial).2 r |>.1 o2)
      have hn45 : R 345 n = 0 := s2.2.2.1.resolve_right (fun r => by have := s2.2.2.2.1 r; rw [hn44] at this; exact absurd this z01)
      have hc0 := (fi_mem (A := A) (T := T) (kn := kn) (n := n) (by rw [hX.1]; exact o1)).1
      obtain ⟨i1, i2, i3, i4, i5, i6, i7, i8⟩ := ti hT (show fi A T kn n < lT T by omega)
      obtain ⟨A', eA⟩ : ∃ z, z = up2 (up2 (up2 A (T + 5) (fi A T kn n) 1) 15 hh (nI (fi A T kn n))) 16 hh (A 16 hh + 1) := ⟨_, rfl⟩
      obtain ⟨R', eR⟩ : ∃ z, z = up2 (up2 (up2 R 337 hh (nI n)) 343 n (nI hh)) 336 hh (R 336 hh + 1) := ⟨_, rfl⟩
      have hcl : f_X3_pick I G A L (nI hh) = some A' := by
        simp (disch := omega) only [f_X3_pick, hGT, hGE, gd_t g0, bd, hd1, ht1, if_pos h30, if_true, hnf, hnx, Option.bind_some, Option.map_some, enc, if_neg (t_m1 (show fi A T kn n < 2147483648 by omega)), gd_t g5, gd_t i5, t_cl, gd_in, nb_1]
        rw [eA, up2_j (show (16 : Nat) ≠ 15 by decide), up2_j (show 16 ≠ T + 5 by omega)]
      have hrf2 : f_X7_turnOf J R (nI p) (nI hh) = some (J, R') := by
        rw [hrf, hnx]
        simp (disch := omega) only [enc, t_m9, if_false, hd2, ht2, h30, if_true, gd_in, t_cl]
        rw [eR, up2_j (show (336 : Nat) ≠ 343 by decide), up2_j (show (336 : Nat) ≠ 337 by decide)]
      have hA : ∀ j m, j ≠ T + 5 → j ≠ 15 → j ≠ 16 → A' j m = A j m := fun j m q1 q2 q3 => by rw [eA, up2_j q3, up2_j q2, up2_j q1]
      have hA5 : ∀ m, m ≠ fi A T kn n → A' (T + 5) m = A (T + 5) m := fun m q => by rw [eA, up2_j (by omega), up2_j (by omega), up2_k q]
      have hA5' : A' (T + 5) (fi A T kn n) = 1 := by rw [eA, up2_j (by omega), up2_j (by omega), up2_s]
      have hA15 : ∀ m, m ≠ hh → A' 15 m = A 15 m := fun m q => by rw [eA, up2_j (by decide), up2_k q, up2_j (by omega)]
      have hA15' : A' 15 hh = nI (fi A T kn n) := by rw [eA, up2_j (by decide), up2_s]
      have hA16 : ∀ m, m ≠ hh → A' 16 m = A 16 m := fun m q => by rw [eA, up2_k q, up2_j (by decide), up2_j (by omega)]
      have hA16' : A' 16 hh = A 16 hh + 1 := by rw [eA, up2_s]
      have hR : ∀ j m, j ≠ 337 → j ≠ 343 → j ≠ 336 → R' j m = R j m := fun j m q1 q2 q3 => by rw [eR, up2_j q3, up2_j q2, up2_j q1]
      have hR43 : ∀ m, m ≠ n → R' 343 m = R 343 m := fun m q => by rw [eR, up2_j (by decide), up2_k q, up2_j (by decide)]
      have hR43' : R' 343 n = nI hh := by rw [eR, up2_j (by decide), up2_s]
      have hR37 : ∀ m, m ≠ hh → R' 337 m = R 337 m := fun m q => by rw [eR, up2_j (by decide), up2_j (by decide), up2_k q]
      have hR37' : R' 337 hh = nI n := by rw [eR, up2_j (by decide), up2_j (by decide), up2_s]
      have hR36 : ∀ m, m ≠ hh → R' 336 m = R 336 m := fun m q => by rw [eR, up2_k q, up2_j (by decide), up2_j (by decide)]
      have hR36' : R' 336 hh = R 336 hh + 1 := by rw [eR, up2_s]
      have hos : os A' T kn = os A T kn := os_c (fun c _ => hA _ _ (by omega) (by omega) (by omega))
      have hfi : fi A' T kn = fi A T kn := by funext m; unfold fi; rw [hos]
      have hXX : TT I A' L J R' T B nv kn nn True fb (fun a => ¬ R' 345 a = 0) (fun _ => False) := by
        obtain ⟨a, b, c, d, e, f⟩ := hX
        refine ⟨by rw [hos]; exact a, b, c, d, e, fun m hm => ?_⟩
        rw [hfi]
        obtain ⟨t1, t2, t3, t4⟩ := f m hm
        refine ⟨TNs_c t1 e (hA _ _ (by omega) (by omega) (by omega)) rfl (fun _ => hA _ _ (by omega) (by omega) (by omega)) (hR _ _ (by decide) (by decide) (by decide)) (fun _ _ => hR _ _ (by decide) (by decide) (by decide)) (hR _ _ (by decide) (by decide) (by decide)) (hR _ _ (by decide) (by decide) (by decide)), fun q => ?_, ?_, TNc_c t4 (fun _ => hA _ _ (by omega) (by omega) (by omega)) (fun _ => hA _ _ (by omega) (by omega) (by omega)) (hA _ _ (by omega) (by omega) (by omega)) (fun _ _ => hR _ _ (by decide) (by decide) (by decide)) (fun _ => hR _ _ (by decide) (by decide) (by decide)) (fun _ => hR _ _ (by decide) (by decide) (by decide)) (hR _ _ (by decide) (by decide) (by decide))⟩
        · by_cases hmn : m = n
          · subst hmn
            unfold TNd stg
            rw [hA5', hR43', hR 344 m (by decide) (by decide) (by decide), hR 345 m (by decide) (by decide) (by decide), hn44, hn45, if_pos rfl, if_pos rfl, if_neg (t_m9 (by omega))]
            exact ⟨rfl, Or.inl rfl, Or.inl rfl, fun q => absurd q z01, fun _ => ⟨Or.inr ⟨hh, hh5, rfl⟩, fun q => absurd q z01⟩⟩
          · have hcn : fi A T kn m ≠ fi A T kn n := fun q => hmn (fi_inj (A := A) (T := T) (kn := kn) (by rw [a]; exact hm) (by rw [a]; exact o1) q)
            have t2 := t2 (fun q => q)
            unfold TNd stg at t2 ⊢
            rw [hA5 _ hcn, hA (T + 6) _ (by omega) (by omega) (by omega), hR43 m hmn, hR 344 m (by decide) (by decide) (by decide), hR 345 m (by decide) (by decide) (by decide)]
            exact t2
        · unfold TNr at t3 ⊢
          rw [hA _ _ (by omega) (by omega) (by omega), hR 342 m (by decide) (by decide) (by decide)]
          simp only [fun a => hR 345 a (by decide) (by decide) (by decide)]
          exact t3
      refine ⟨A', R', hcl, hrf2, ⟨⟨hT, hG, TPr_of hPr (fun _ _ _ _ => rfl) (fun j k h1 h2 => hA j k (by omega) (by omega) (by omega)) (fun j k h1 h2 => hR j k (by omega) (by omega) (by omega)), hmt, hXX, FC_c hF (fun m => hA _ _ (by omega) (by omega) (by omega)) (fun n _ => hR _ _ (by decide) (by decide) (by decide)) (fun n _ => hR _ _ (by decide) (by decide) (by decide)), hd1, hd2, ht1, ht2, fun i hi => ?_⟩, hE, hGT, hGE, hkn, ?_, fun x hx => ?_, ?_, hlim, htn1, htn2, hT46, ht250⟩, ⟨fun _ _ _ _ _ => rfl, fun _ _ _ _ => rfl, fun j m h1 h2 h3 h4 h5 h6 => hA j m (by omega) h1 h2, fun _ _ _ => rfl, fun _ _ _ => rfl, fun j m h1 h2 => hR j m (by omega) (by omega) (by omega)⟩⟩
      · rw [hfi, hA _ _ (by omega) (by omega) (by omega), hR _ _ (by decide) (by decide) (by decide)]
        obtain ⟨m, m1, m2, m3, m4⟩ := hw i hi
        exact ⟨m, m1, m2, by rw [hR _ _ (by decide) (by decide) (by decide)]; exact m3, m4⟩
      · have e := hc_up (A := A) (A' := A') hh5 hA15
        have e5 := hc_le A'
        rw [if_pos hno, hA15', if_neg (t_m1 (by omega))] at e
        have hdt : dd < tk + 30 := by
          rcases Nat.lt_or_ge dd tk with r | r
          · omega
          · have e1 : nI dd - nI tk = nI (dd - tk) := by
              have : nI dd = nI (dd - tk) + nI tk := by rw [nI_add, Nat.sub_add_cancel r]
              rw [this, Int32.add_sub_cancel]
            have hd4 : dd ≤ tk + 34 := by omega
            rw [e1] at h30
            have := (t_lt (a := dd - tk) (b := 30) (by omega) (by omega)).mp h30
            omega
        omega
      · obtain ⟨c1, ⟨q, f, c2, c3, c4, c5, c6, c7, c8⟩, c9, c10, c11⟩ := hH x hx
        unfold THo THa THt
        rw [hfi, hA (E + 1) x (by omega) (by omega) (by omega), hA (E + 3) x (by omega) (by omega) (by omega), hA (E + 4) x (by omega) (by omega) (by omega), hA (E + 5) x (by omega) (by omega) (by omega), hR 335 x (by decide) (by decide) (by decide), hR 334 x (by decide) (by decide) (by decide), hR 333 x (by decide) (by decide) (by decide), hR 332 x (by decide) (by decide) (by decide)]
        by_cases hxh : x = hh
        · subst hxh
          rw [hA15', hA16', hR37', hR36']
          refine ⟨Or.inr ⟨n, o1, rfl, rfl, hR43', by rw [hR _ _ (by decide) (by decide) (by decide)]; exact hn44⟩, ⟨q + 1, f, by omega, by rw [c3, nI_1], by rw [c4, nI_1], fun _ => by omega, c6, c7, ?_⟩, c9, c10, c11⟩
          rcases c8 with c8 | ⟨c8, c8'⟩
          · exact Or.inl c8
          · exact Or.inr ⟨c8, Or.inl (by omega)⟩
        · rw [hA15 x hxh, hA16 x hxh, hR37 x hxh, hR36 x hxh]
          refine ⟨?_, ⟨q, f, by omega, c3, c4, c5, c6, c7, c8⟩, c9, c10, c11⟩
          rcases c1 with c1 | ⟨m, n1, n2, n3, n4, n5⟩
          · exact Or.inl c1
          · have hmn : m ≠ n := fun e => by rw [e, o2] at n4; exact absurd n4.symm (t_m9 (by omega))
            exact Or.inr ⟨m, n1, n2, n3, by rw [hR43 m hmn]; exact n4, by rw [hR _ _ (by decide) (by decide) (by decide)]; exact n5⟩
      · obtain ⟨c1, c2, c3, c4, c5, c6, c7, c8⟩ := hTe
        exact ⟨c1, c2, c3, c4, c5, c6, c7, fun i hi => by rw [hA _ _ (by omega) (by omega) (by omega), hR _ _ (by decide) (by decide) (by decide)]; exact c8 i hi⟩
  · have hcl : f_X3_pick I G A L (nI hh) = some (up2 A (E + 4) hh (A (E + 4) hh + 1)) := by
      simp (disch := omega) only [f_X3_pick, hGT, hGE, gd_t g0, bd, hd1, ht1, if_neg h30, z10, if_false, if_true, gd_t k0, gd_t k4, l4, gd_in, t_cl]
    rw [hcl, hrf, hd2, ht2, if_neg h30]
    by_cases q : enc (-9) (nxf R nn) = -9
    · rw [if_pos q]; exact hidle
    · rw [if_neg q]; exact hidle
end TN
