/-! THE TIE: a solving ends -/
section CK
variable {I A : Nat → Nat → Int32} {G : Nat → Nat → Nat} {L : Nat → Nat → Int64} {J R I' A' J' R' : Nat → Nat → Int32} {G' : Nat → Nat → Nat} {L' : Nat → Nat → Int64} {n np z sc T p nv nr kn nn dd tk tn hb : Nat} {fb : Nat → Option (Nat × Nat)} {r : Int32}
/-- all but the solving -/
def RS (n : Nat) (I : Nat → Nat → Int32) (G : Nat → Nat → Nat) (A : Nat → Nat → Int32) (L : Nat → Nat → Int64) (J R : Nat → Nat → Int32) (np z sc : Nat) : Prop := Q1 I A J R np ∧ Q2 I A J R z sc ∧ Q3 I A R ∧ Q4 I G A L J R ∧ Q5c I J R n ∧ Q5 I A J R ∧ Q6 A J R ∧ Q7 I J ∧ I 0 3 = J 318 19
theorem RS_fr (h : RS n I G A L J R np z sc) (hT : (T = 22 ∧ G 0 6 = 34) ∨ (T = 34 ∧ G 0 6 = 22))
    (hI : ∀ j k, j ≠ T → j ≠ T + 11 → j ≠ 14 → ¬ (j = 0 ∧ k = 5) → I' j k = I j k)
    (hG : ∀ j k, j ≠ T → j ≠ 14 → G' j k = G j k)
    (hA : ∀ j m, j ≠ 15 → j ≠ 16 → j ≠ 5 → j ≠ 6 → j ≠ 7 → (j < T + 2 ∨ T + 10 < j) → A' j m = A j m)
    (hL : ∀ j m, j ≠ T + 1 → L' j m = L j m)
    (hJ : ∀ k, ¬ (k = 0 ∨ k = 23 ∨ k = 24 ∨ k = 28 ∨ k = 29 ∨ k = 30 ∨ k = 31 ∨ k = 64 ∨ k = 65) → J' 318 k = J 318 k)
    (hR : ∀ j m, (j < 332 ∨ 349 < j) → j ≠ 364 → R' j m = R j m)
    (hte : ∀ h, h < 5 → THt A' R' 2 h) : RS n I' G' A' L' J' R' np z sc := by
  obtain ⟨q1, ⟨⟨t1, t2, t3, t4, t5, t6, t7, t8⟩, q2⟩, q3, q4, q5c, q5, q6, q7, q8⟩ := h
  refine ⟨Q1_of q1 (hI _ _ (by omega) (by omega) (by omega) (by omega)) (hJ _ (by omega)) (fun j k h1 h2 _ => hI j k (by omega) (by omega) (by omega) (by omega)) (fun j k h1 h2 _ => hA j k (by omega) (by omega) (by omega) (by omega) (by omega) (by omega)) (fun j k h1 h2 => hR j k (by omega) (by omega)), ⟨⟨by rw [hI _ _ (by omega) (by omega) (by omega) (by omega)]; exact t1, by rw [hJ _ (by omega)]; exact t2, t3, t4, by rw [hI _ _ (by omega) (by omega) (by omega) (by omega)]; exact t5, by rw [hJ _ (by omega)]; exact t6, t7, fun i hi => by rw [hA _ _ (by omega) (by omega) (by omega) (by omega) (by omega) (by omega), hR _ _ (by omega) (by omega)]; exact t8 i hi⟩, fun x hx => ⟨by rw [hA _ _ (by omega) (by omega) (by omega) (by omega) (by omega) (by omega), hR _ _ (by omega) (by omega)]; exact (q2 x hx).1, hte x hx⟩⟩, Q3_of q3 (fun p hp => hI _ _ (by omega) (by omega) (by omega) (by omega)) (fun p m hp => hA _ _ (by omega) (by omega) (by omega) (by omega) (by omega) (by omega)) (fun j m h1 h2 => hR j m (by omega) (by omega)), Q4_of q4 (hG _ _ (by omega) (by omega)) (fun T2 h => hG _ _ (by omega) (by omega)) (fun T2 h => hI _ _ (by omega) (by omega) (by omega) (by omega)) (hJ _ (by omega)) (fun T2 j m h1 h2 h3 => hA j m (by omega) (by omega) (by omega) (by omega) (by omega) (by omega)) (fun T2 m h => hL _ _ (by omega)) (fun j m h1 h2 => hR j m (by omega) (by omega)) (fun B nv hB e1 e2 => ⟨nv, Nat.le_refl _, e2, by rw [hI _ _ (by have := pr_ge hB; omega) (by have := pr_ge hB; omega) (by have := pr_ge hB; omega) (by have := pr_ge hB; omega)]; exact e1, fun m _ => hA _ _ (by have := pr_ge hB; omega) (by have := pr_ge hB; omega) (by have := pr_ge hB; omega) (by have := pr_ge hB; omega) (by have := pr_ge hB; omega) (by have := pr_ge hB; omega)⟩), Q5c_of q5c (Nat.le_refl _) (hJ _ (by omega)) (fun p hp => hI _ _ (by omega) (by omega) (by omega) (by omega)) (fun m => hR _ _ (by omega) (by omega)), Q5_of q5 (fun k _ _ => hI _ _ (by omega) (by omega) (by omega) (by omega)) (fun k _ _ => hJ k (by omega)) (fun p k hp _ _ => hI _ _ (by omega) (by omega) (by omega) (by omega)) (fun m => hA _ _ (by omega) (by omega) (by omega) (by omega) (by omega) (by omega)) (fun p m hp => hA _ _ (by omega) (by omega) (by omega) (by omega) (by omega) (by omega)) (fun m => hR _ _ (by omega) (by omega)) (fun m => hR _ _ (by omega) (by omega)) (Qn_of (hJ _ (by omega))), Q6_of q6 (hJ _ (by omega)) (fun m => hA _ _ (by omega) (by omega) (by omega) (by omega) (by omega) (by omega)) (fun m => hR _ _ (by omega) (by omega)), ?_, ?_⟩
  · exact ⟨by rw [hI _ _ (by omega) (by omega) (by omega) (by omega), hJ _ (by omega)]; exact q7.1, by rw [hI _ _ (by omega) (by omega) (by omega) (by omega)]; exact q7.2⟩
  · rw [hI _ _ (by omega) (by omega) (by omega) (by omega), hJ _ (by omega)]
    exact q8
theorem t_end (h : RS n I G A L J R np z sc) (hT : (T = 22 ∧ G 0 6 = 34) ∨ (T = 34 ∧ G 0 6 = 22)) (hS : TSv I G A L J R T 2 p (58 + 52 * p) nv nr kn nn dd tk tn hb z sc fb) (hp : p < np) (hu : I 0 5 = nI p) (hr : ¬ r = 0) (he : TEn R nv nn tk r) : ∃ I' G' A' J' R', f_X6_endSolving I G A L r = some (I', G', A') ∧ f_X7_endsAs J R (nI p) r = some (J', R') ∧ (Q9 R' → Rel (n + 1) I' G' A' L J' R') := by
  obtain ⟨⟨p1, p2, p3, p4⟩, q2, q3, q4, q5c, q5, q6, q7, q8⟩ := id h
  obtain ⟨hSw, hE, hGT, hGE, hkn, hhc, hH, hTe, hlim, htn1, htn2, hT46, ht250⟩ := hS
  obtain ⟨hTr, hGB, hPr, hmt, hX, hF, hd1, hd2, ht1, ht2, hw⟩ := id hSw
  obtain ⟨g0, g1, g2, g3, g10, g11, l1, l2, l3, l10, l11⟩ := pq_all p (by omega)
  have hnv := hPr.2.2.1.1
  have hlT : lT T = 1711 := by unfold lT; rw [if_pos hT46]
  have hT2 : T = 22 ∨ T = 34 := by
    rcases hT with ⟨a, _⟩ | ⟨a, _⟩
    · exact Or.inl a
    · exact Or.inr a
  have hlen := hX.1
  have hknT := hX.2.2.2.1
  have hos : nn ≤ kn := by
    rcases Nat.eq_zero_or_pos nn with e | e
    · omega
    · have a := fi_mem (A := A) (T := T) (kn := kn) (n := nn - 1) (by omega)
      have b : ∀ m, m < nn → m ≤ fi A T kn m := fun m => by
        induction m with
        | zero => intro _; omega
        | succ m ih =>
          intro hm
          have c := fi_lt (A := A) (T := T) (kn := kn) (n := m) (m := m + 1) (by omega) (by omega)
          have := ih (by omega)
          omega
      have := b (nn - 1) (by omega)
      omega
  have hnn : nn ≤ 1711 := by omega
  obtain ⟨A', s1, s2, s3, s4, s5, s6, s7⟩ := t_sumUp (s2 := 58 + 52 * p + 11) (r := r) hSw hGT ⟨by have := g11.1; unfold NS; omega, g11.2, l11⟩ g11.1 (by omega) ht250
  have hr1 : r = 1 → 0 < tk := fun e => by
    rcases he with ⟨a, _⟩ | ⟨_, b, _⟩ | ⟨a, _⟩ | a | a
    · exact absurd a hr
    · exact b
    · rw [e] at a; exact absurd a (by decide)
    · rw [e] at a; exact absurd a (by decide)
    · rw [e] at a; exact absurd a (by decide)
  have hmL : ∃ mL, 0 < tk → R 346 (tk - 1) = nI mL ∧ mL < 2000 := by
    rcases Nat.eq_zero_or_pos tk with e | e
    · exact ⟨0, fun q => by omega⟩
    · obtain ⟨m, m1, m2, _⟩ := hw (tk - 1) (by omega)
      exact ⟨m, fun _ => ⟨m2, by omega⟩⟩
  obtain ⟨mL, hmL⟩ := hmL
  obtain ⟨R', e1, e2, e3, e4, f0, f1, f2, f3, f4, f5, f6, f7, f8, f9⟩ := r_endsAs (nv := nv) (tk := tk) (mL := mL) (nx := nxw R nn) (r := r) (show p < 5 by omega) (t_nxw hX hTr).2 (fun m hm => by have := (nxw_o hm).1; omega) ht2 ht250 hnv hPr.2.2.2.1 (fun x hx => by
    obtain ⟨m, m1, m2, _⟩ := hw x hx
    obtain ⟨hs, _⟩ := hX.2.2.2.2.2 m m1
    exact ⟨m, by omega, m2, hs.2.1, hs.1⟩) hmL hr1
  have hisP : f_X6_isProblem I (nI p) = some 1 := by
    rcases t_isP (a := nI p) (I := I) (J := J) p2 p3 p1 with ⟨_, _, _, x, _⟩ | ⟨x, _⟩
    · exact x
    · unfold f_X6_isProblem at x
      rw [p2, (t_wi _ _ _).1, nI_s1 (by omega), if_pos (t_rng1 (by omega) (by omega))] at x
      exact absurd (Option.some.inj ((gd_t (Or.inr rfl)).symm.trans x)) (by decide)
  have hends : f_X6_endSolving I G A L r = some (up2 (up2 I (58 + 52 * p) 3 1) 0 5 (-9), up2 (up2 G 0 6 (G 14 0)) 14 0 (G 0 6), A') := by
    unfold f_X6_endSolving
    simp (disch := omega) only [hu, hisP, Option.bind_some, if_neg z10, gd_in, t_cl, gd_t g0, s1, bd]
  have hI : ∀ j k, ¬ (j = 58 + 52 * p ∧ k = 3) → ¬ (j = 0 ∧ k = 5) → up2 (up2 I (58 + 52 * p) 3 1) 0 5 (-9) j k = I j k := fun j k q1 q2 => by rw [up2_n q2, up2_n q1]
  have hJ : ∀ k, ¬ (k = 23 ∨ k = 48) → up2 (up2 J 318 48 (nI tk)) 318 23 (-9) 318 k = J 318 k := fun k q => by rw [up2_n (by omega), up2_n (by omega)]
  refine ⟨_, _, _, _, _, hends, e1, fun h9 => ⟨np, z, sc, Q1_of ⟨p1, p2, p3, p4⟩ (hI _ _ (by omega) (by omega)) (hJ _ (by omega)) (fun j k h1 h2 h3 => hI j k (by omega) (by omega)) (fun j k h1 h2 h3 => s2 j k (by omega)) (fun j k h1 h2 => e2 j k (by omega)), Q2_of q2 (fun k => hI _ _ (by omega) (by omega)) (hJ _ (by omega)) (hJ _ (by omega)) (fun j m h1 h2 => s2 j m (by omega)) (fun j m h1 h2 => e2 j m (by omega)), fun q hq => ?_, ⟨T, 58 + 52 * p, tk, nv, ?_, hT2, ?_, ⟨p, by omega, rfl⟩, ?_, ?_, ht250, ?_, hnv, fun i hi => ?_⟩, Q5c_of q5c (Nat.le_succ n) (hJ _ (by omega)) (fun p hp => hI _ _ (by omega) (by omega)) (fun m => e2 _ _ (by omega)), Q5_of q5 (fun k _ _ => hI _ _ (by omega) (by omega)) (fun k _ _ => hJ k (by omega)) (fun p k hp _ _ => hI _ _ (by omega) (by omega)) (fun m => s2 _ _ (by omega)) (fun p m hp => s2 _ _ (by omega)) (fun m => e2 _ _ (by omega)) (fun m => e2 _ _ (by omega)) (Qn_of (hJ _ (by omega))), Q6_of q6 (hJ _ (by omega)) (fun m => s2 _ _ (by omega)) (fun m => e2 _ _ (by omega)), ?_, ⟨?_, G 0 6, up2_s _ _ _ _, ?_, Or.inl ⟨up2_s _ _ _ _, up2_s _ _ _ _⟩⟩, h9⟩⟩
  · by_cases e : q = p
    · subst e
      refine Or.inr ⟨by rw [up2_n (by omega), up2_s], f6, fun k hk => ?_, ?_⟩
      · have hk6 : k = 0 ∨ k = 1 ∨ k = 2 ∨ k = 3 ∨ k = 4 ∨ k = 5 := by omega
        rcases hk6 with rfl | rfl | rfl | rfl | rfl | rfl
        · rw [s3]; exact f0.symm
        · rw [s4]; exact f1.symm
        · rw [s5]; exact hd2.symm.trans f2.symm
        · rw [s6, htn1]; exact htn2.symm.trans f3.symm
        · rw [f4]
          rcases s7 with ⟨a1, a2, m, a3, a4, a5, a6, a7⟩ | ⟨a1, a2, a3, a4⟩
          · have em : m = mL := (t_eq (by omega) (by have := (hmL a2).2; omega)).mp (a4.symm.trans (hmL a2).1)
            rw [if_pos a1, a5, em]
          · rw [if_neg (fun q => a1 ⟨q, hr1 q⟩), a2]
        · rw [f5]
          rcases s7 with ⟨a1, a2, m, a3, a4, a5, a6, a7⟩ | ⟨a1, a2, a3, a4⟩
          · have em : m = mL := (t_eq (by omega) (by have := (hmL a2).2; omega)).mp (a4.symm.trans (hmL a2).1)
            rw [if_pos a1, a6, em]
          · rw [if_neg (fun q => a1 ⟨q, hr1 q⟩), a3]
      · rcases s7 with ⟨a1, a2, m, a3, a4, a5, a6, a7⟩ | ⟨a1, a2, a3, a4⟩
        · have em : m = mL := (t_eq (by omega) (by have := (hmL a2).2; omega)).mp (a4.symm.trans (hmL a2).1)
          exact Or.inl ⟨by rw [f7, if_pos a1], fun v hv => by rw [a7 v hv, f8 a1 v hv, em]⟩
        · exact Or.inr ⟨by rw [f7, if_neg (fun q => a1 ⟨q, hr1 q⟩)], a4⟩
    · have := q3 q hq
      rw [hI _ _ (by omega) (by omega), (e4 q e).1, (e4 q e).2]
      rcases this with a | ⟨a, b, c, d⟩
      · exact Or.inl a
      · refine Or.inr ⟨a, b, fun k hk => ?_, ?_⟩
        · rw [s2 _ _ (by omega), (e3 (6 * q + k) (by omega)).1]
          exact c k hk
        · rcases d with ⟨d1, d2⟩ | ⟨d1, d2⟩
          · exact Or.inl ⟨d1, fun v hv => by rw [s2 _ _ (by omega), (e3 (6 * q + v) (by omega)).2]; exact d2 v hv⟩
          · exact Or.inr ⟨d1, fun v hv => by rw [s2 _ _ (by omega)]; exact d2 v hv⟩
  · rw [up2_n (by omega), up2_s]; exact hGT
  · rw [up2_n (by omega), up2_n (by omega)]; exact hGB
  · rw [hI _ _ (by omega) (by omega)]; exact ht1
  · rw [up2_n (by omega), up2_s]
  · rw [hI _ _ (by omega) (by omega)]; exact hPr.2.2.1.2.2.1
  · obtain ⟨m, m1, m2, m3, m4⟩ := hw i hi
    obtain ⟨hs, hd, _, hc⟩ := hX.2.2.2.2.2 m m1
    obtain ⟨d1, d2, d3, d4, d5⟩ := hd (fun q => q)
    have h344 := d4 m3
    obtain ⟨w1, w2, w3, w4, w5, w6⟩ := f9 i m hi m2 (by omega)
    obtain ⟨fm1, fm2⟩ := fi_mem (A := A) (T := T) (kn := kn) (n := m) (by omega)
    have hcl : fi A T kn m < lT T := by omega
    have hb1 := (t_bOf (L := L) hTr hcl).symm.trans (t_bound hTr hcl hs)
    have hA' : ∀ j x, j < 58 → A' j x = A j x := fun j x hj => s2 j x (by omega)
    refine ⟨fi A T kn m, dn R m, by omega, by rw [hA' _ _ (by omega)]; exact m4, by have := hs.1; omega, by rw [hA' _ _ (by omega)]; exact hs.2.2.1, w1.trans hs.2.1, fun v hv => ?_, fun v hv1 hv2 => ?_, ?_, ?_, ?_⟩
    · rw [hs.2.2.2.2.2.1, vlo_e8 _ (ns_6 hs) hv (by have := hs.1; omega), (w6 v (by have := hs.1; omega)).1, (hs.2.2.2.1 v hv).1]
    · rw [(w6 v hv2).1]; exact hs.2.2.2.2.1 v hv1 hv2
    · rw [w2]; exact Option.some.inj hb1
    · rw [hA' _ _ (by omega), w3]; exact ((d5 trivial).2 h344).2
    · rcases hF.2 m m1 with ⟨u1, u2⟩ | ⟨f, u1, u2, u3⟩
      · have hdn : ¬ dn R m < nv := fun q => u2 ⟨h344, q⟩
        rcases hc with ⟨v1, v2, v3, _⟩ | ⟨f, k, v1, _⟩
        · exact Or.inl ⟨by rw [hA' _ _ (by omega)]; exact v2, by rw [w5, if_neg hdn], w4.trans v3⟩
        · rw [u1] at v1
          exact absurd v1 (by simp)
      · rcases hc with ⟨v1, _⟩ | ⟨f', k, v1, v2, v3, v4, v5, v6, _⟩
        · rw [u1] at v1
          exact absurd v1 (by simp)
        · rw [u1] at v1
          obtain ⟨x1, x2⟩ := Prod.mk.inj (Option.some.inj v1)
          subst x1 x2
          obtain ⟨y1, y2, y3⟩ := pr_sz hPr.2.2.1 u3
          refine Or.inr ⟨f, szo A (58 + 52 * p) (dn R m), by rw [hA' _ _ (by omega)]; exact v2, v3, by omega, u3, by rw [s2 _ _ (by omega)]; exact y1, ?_, ?_, fun y hy => ?_⟩
          · rw [w5, if_pos u3, hPr.2.2.2.2.2.1 _ (by omega)]; exact y1
          · rw [w4, v6]
            exact sm_c _ _ _ (fun i _ _ => by rw [hA' _ _ (by omega)])
          · rw [hA' _ _ (by omega), hA' _ _ (by omega), (w6 y (by omega)).2.1, (w6 y (by omega)).2.2]
            exact v5 y hy
  · exact ⟨by rw [hI _ _ (by omega) (by omega), hJ _ (by omega)]; exact q7.1, by rw [hI _ _ (by omega) (by omega)]; exact q7.2⟩
  · rw [hI _ _ (by omega) (by omega), hJ _ (by omega)]
    exact q8
  · rw [up2_n (show ¬ (0 = 14 ∧ 6 = 0) by decide), up2_s]
    rcases hT with ⟨a, b⟩ | ⟨a, b⟩
    · exact Or.inr ⟨b, hGT.trans a⟩
    · exact Or.inl ⟨b, hGT.trans a⟩
end CK
