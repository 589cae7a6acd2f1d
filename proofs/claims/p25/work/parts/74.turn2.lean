/-! THE TIE: turns of helpers that have a node -/
section TM
variable {I A : Nat → Nat → Int32} {L : Nat → Nat → Int64} {J R : Nat → Nat → Int32} {T E p B nv nr kn nn dd tk tn hb z sc hh n0 : Nat} {sv : Prop} {fb : Nat → Option (Nat × Nat)} {tkp : Nat → Prop} {G : Nat → Nat → Nat}
theorem TT_mk (h : TT I A L J R T B nv kn nn sv fb (fun a => a ≠ n0 ∧ tkp a) (fun n => n = n0)) (hT : TrAt T) (hd : n0 < nn → TNd A R T sv n0 (fi A T kn n0)) (ht : ∀ a, a < nn → fb a ≠ none → ((a ≠ n0 ∧ tkp a) ↔ ¬ R 345 a = 0)) : TT I A L J R T B nv kn nn sv fb (fun a => ¬ R 345 a = 0) (fun _ => False) := by
  have hnn := (tt_nn hT h).2
  obtain ⟨a, b, c, d, e, f⟩ := h
  refine ⟨a, b, c, d, e, fun n hn => ?_⟩
  obtain ⟨g1, g2, g3, g4⟩ := f n hn
  refine ⟨g1, fun _ => ?_, ?_, g4⟩
  · by_cases q : n = n0
    · subst q; exact hd hn
    · exact g2 q
  · rcases g3 with q | ⟨x, hx, q1, q2⟩
    · exact Or.inl q
    · have hne : fb x ≠ none := fun q => by
        rcases (f x (by omega)).2.2.2 with ⟨_, _, _, r⟩ | ⟨f', k', r, _⟩
        · exact r n hn q1
        · rw [q] at r; cases r
      refine Or.inr ⟨x, hx, q1, ?_⟩
      rcases q2 with ⟨q2, q3⟩ | ⟨q2, q3⟩
      · exact Or.inl ⟨(ht x (by omega) hne).mp q2, q3⟩
      · exact Or.inr ⟨fun r => q2 ((ht x (by omega) hne).mpr r), q3⟩
/-- it fails -/
theorem t_repl (h : TSv I G A L J R T E p B nv nr kn nn dd tk tn hb z sc fb) (hh5 : hh < 5) (hhas : ¬ A 15 hh = -1) (hfl : A 16 hh = A (E + 1) hh) (hb30 : hb < 1073741824) : ∃ A' R', f_X3_replace G A (nI hh) = some A' ∧ f_X7_turnOf J R (nI p) (nI hh) = some (J, R') ∧ TSv I G A' L J R' T E p B nv nr kn nn dd tk tn (hb + 1) z sc fb ∧ XT T E I A L J R I A' L J R' := by
  obtain ⟨⟨hT, hG, hPr, hmt, hX, hF, hd1, hd2, ht1, ht2, hw⟩, hE, hGT, hGE, hkn, hhc, hH, hTe, hlim, htn1, htn2, hT46, ht250⟩ := h
  have hT58 := (tr_o hT).1
  have hT22 : 22 ≤ T := by rcases hT with h | h | h <;> omega
  have hE14 := (te_o hE).1
  have hE2 : 2 ≤ E := by rcases hE with h | h <;> omega
  have hB58 := pr_ge (tp_at hPr)
  have hlT := (tr_l hT).2.2.2.2.2.2.2.2.2.2.2
  have hnn := tt_nn hT hX
  have hknl := hX.2.2.2.1
  obtain ⟨g0, g1, g2, g3, g4, g5, g6, g7, g8, g9, g10, g11⟩ := tgd hT
  obtain ⟨k0, k1, k3, k4, k5, l1, l3, l4, l5⟩ := tegd hE
  obtain ⟨n, n1, n2, n3, n4, n5⟩ := (hH hh hh5).1.resolve_left (fun q => hhas q.1)
  obtain ⟨⟨q, f, c2, c3, c4, c5, c6, c7, c8⟩, c9, c10, c11⟩ := (hH hh hh5).2
  have hq1 := c5 hhas
  have hqf : q = f := by rw [c3, c7, t_eq (by omega) (by omega)] at hfl; exact hfl
  have hR335 : R 335 hh = nI q := by
    rcases c8 with c8 | ⟨_, c8 | ⟨c8, _⟩⟩
    · rw [c8, hqf]
    · omega
    · exact absurd c8 hhas
  obtain ⟨s1, s2, s3, s4⟩ := hX.2.2.2.2.2 n n1
  have s2 := s2 (fun q => q)
  have hn45 : R 345 n = 0 := s2.2.2.1.resolve_right (fun r => by have := s2.2.2.2.1 r; rw [n5] at this; exact absurd this z01)
  have hc0 := (fi_mem (A := A) (T := T) (kn := kn) (n := n) (by rw [hX.1]; exact n1)).1
  obtain ⟨i1, i2, i3, i4, i5, i6, i7, i8⟩ := ti hT (show fi A T kn n < lT T by omega)
  obtain ⟨A', eA⟩ : ∃ z, z = up2 (up2 (up2 A (T + 5) (fi A T kn n) 0) 15 hh (-1)) (E + 5) hh (A (E + 5) hh + 1) := ⟨_, rfl⟩
  obtain ⟨R', eR⟩ : ∃ z, z = up2 (up2 (up2 (up2 R 337 hh (-9)) 343 n (-9)) 335 hh 0) 333 hh (R 333 hh + 1) := ⟨_, rfl⟩
  have hcl : f_X3_replace G A (nI hh) = some A' := by
    simp (disch := omega) only [f_X3_replace, hGT, hGE, gd_t g0, bd, gd_in, t_cl, gd_t g5, n2, gd_t i5, gd_t k0, gd_t k5, l5, nb_0]
    rw [eA, up2_j (show E + 5 ≠ 15 by omega), up2_j (show E + 5 ≠ T + 5 by omega)]
  have hrf : f_X7_turnOf J R (nI p) (nI hh) = some (J, R') := by
    have e1 : up2 R 337 hh (-9) 335 hh = nI q := by rw [up2_j (by decide)]; exact hR335
    have e2 : up2 R 337 hh (-9) 336 hh = nI q := by rw [up2_j (by decide)]; exact c4
    have hpos : (0 : Int32) < nI q := nI_lt (a := 0) (by omega) (by omega)
    simp (disch := omega) only [f_X7_turnOf, gd_in, t_cl, n3, t_m9, if_false, bd, e1, e2, if_pos hpos, if_true]
    rw [eR, up2_j (show (333 : Nat) ≠ 335 by decide), up2_j (show (333 : Nat) ≠ 343 by decide), up2_j (show (333 : Nat) ≠ 337 by decide)]
  have hA : ∀ j m, j ≠ T + 5 → j ≠ 15 → j ≠ E + 5 → A' j m = A j m := fun j m q1 q2 q3 => by rw [eA, up2_j q3, up2_j q2, up2_j q1]
  have hA5 : ∀ m, m ≠ fi A T kn n → A' (T + 5) m = A (T + 5) m := fun m q => by rw [eA, up2_j (by omega), up2_j (by omega), up2_k q]
  have hA5' : A' (T + 5) (fi A T kn n) = 0 := by rw [eA, up2_j (by omega), up2_j (by omega), up2_s]
  have hA15 : ∀ m, m ≠ hh → A' 15 m = A 15 m := fun m q => by rw [eA, up2_j (by omega), up2_k q, up2_j (by omega)]
  have hA15' : A' 15 hh = -1 := by rw [eA, up2_j (by omega), up2_s]
  have hE5 : ∀ m, m ≠ hh → A' (E + 5) m = A (E + 5) m := fun m q => by rw [eA, up2_k q, up2_j (by omega), up2_j (by omega)]
  have hE5' : A' (E + 5) hh = A (E + 5) hh + 1 := by rw [eA, up2_s]
  have hR : ∀ j m, j ≠ 337 → j ≠ 343 → j ≠ 335 → j ≠ 333 → R' j m = R j m := fun j m q1 q2 q3 q4 => by rw [eR, up2_j q4, up2_j q3, up2_j q2, up2_j q1]
  have hR43 : ∀ m, m ≠ n → R' 343 m = R 343 m := fun m q => by rw [eR, up2_j (by decide), up2_j (by decide), up2_k q, up2_j (by decide)]
  have hR43' : R' 343 n = -9 := by rw [eR, up2_j (by decide), up2_j (by decide), up2_s]
  have hR37 : ∀ m, m ≠ hh → R' 337 m = R 337 m := fun m q => by rw [eR, up2_j (by decide), up2_j (by decide), up2_j (by decide), up2_k q]
  have hR37' : R' 337 hh = -9 := by rw [eR, up2_j (by decide), up2_j (by decide), up2_j (by decide), up2_s]
  have hR35 : ∀ m, m ≠ hh → R' 335 m = R 335 m := fun m q => by rw [eR, up2_j (by decide), up2_k q, up2_j (by decide), up2_j (by decide)]
  have hR35' : R' 335 hh = 0 := by rw [eR, up2_j (by decide), up2_s]
  have hR33 : ∀ m, m ≠ hh → R' 333 m = R 333 m := fun m q => by rw [eR, up2_k q, up2_j (by decide), up2_j (by decide), up2_j (by decide)]
  have hR33' : R' 333 hh = R 333 hh + 1 := by rw [eR, up2_s]
  have hos : os A' T kn = os A T kn := os_c (fun c _ => hA _ _ (by omega) (by omega) (by omega))
  have hfi : fi A' T kn = fi A T kn := by funext m; unfold fi; rw [hos]
  have hXX : TT I A' L J R' T B nv kn nn True fb (fun a => ¬ R' 345 a = 0) (fun _ => False) := by
    obtain ⟨a, b, c, d, e, f⟩ := hX
    refine ⟨by rw [hos]; exact a, b, c, d, e, fun m hm => ?_⟩
    rw [hfi]
    obtain ⟨t1, t2, t3, t4⟩ := f m hm
    refine ⟨TNs_c t1 e (hA _ _ (by omega) (by omega) (by omega)) rfl (fun _ => hA _ _ (by omega) (by omega) (by omega)) (hR _ _ (by decide) (by decide) (by decide) (by decide)) (fun _ _ => hR _ _ (by decide) (by decide) (by decide) (by decide)) (hR _ _ (by decide) (by decide) (by decide) (by decide)) (hR _ _ (by decide) (by decide) (by decide) (by decide)), fun q => ?_, ?_, TNc_c t4 (fun _ => hA _ _ (by omega) (by omega) (by omega)) (fun _ => hA _ _ (by omega) (by omega) (by omega)) (hA _ _ (by omega) (by omega) (by omega)) (fun _ _ => hR _ _ (by decide) (by decide) (by decide) (by decide)) (fun _ => hR _ _ (by decide) (by decide) (by decide) (by decide)) (fun _ => hR _ _ (by decide) (by decide) (by decide) (by decide)) (hR _ _ (by decide) (by decide) (by decide) (by decide))⟩
    · by_cases hmn : m = n
      · subst hmn
        unfold TNd stg
        rw [hA5', hR43', hR 344 m (by decide) (by decide) (by decide) (by decide), hR 345 m (by decide) (by decide) (by decide) (by decide), n5, hn45, if_pos rfl, if_pos rfl, if_pos rfl]
        exact ⟨rfl, Or.inl rfl, Or.inl rfl, fun q => absurd q z01, fun _ => ⟨Or.inl rfl, fun q => absurd q z01⟩⟩
      · have hcn : fi A T kn m ≠ fi A T kn n := fun q => hmn (fi_inj (A := A) (T := T) (kn := kn) (by rw [a]; exact hm) (by rw [a]; exact n1) q)
        have t2 := t2 (fun q => q)
        unfold TNd stg at t2 ⊢
        rw [hA5 _ hcn, hA (T + 6) _ (by omega) (by omega) (by omega), hR43 m hmn, hR 344 m (by decide) (by decide) (by decide) (by decide), hR 345 m (by decide) (by decide) (by decide) (by decide)]
        exact t2
    · unfold TNr at t3 ⊢
      rw [hA _ _ (by omega) (by omega) (by omega), hR 342 m (by decide) (by decide) (by decide) (by decide)]
      simp only [fun a => hR 345 a (by decide) (by decide) (by decide) (by decide)]
      exact t3
  refine ⟨A', R', hcl, hrf, ⟨⟨hT, hG, TPr_of hPr (fun _ _ _ _ => rfl) (fun j k h1 h2 => hA j k (by omega) (by omega) (by omega)) (fun j k h1 h2 => hR j k (by omega) (by omega) (by omega) (by omega)), hmt, hXX, FC_c hF (fun m => hA _ _ (by omega) (by omega) (by omega)) (fun n _ => hR _ _ (by decide) (by decide) (by decide) (by decide)) (fun n _ => hR _ _ (by decide) (by decide) (by decide) (by decide)), hd1, hd2, ht1, ht2, fun i hi => ?_⟩, hE, hGT, hGE, hkn, ?_, fun x hx => ?_, ?_, hlim, htn1, htn2, hT46, ht250⟩, ⟨fun _ _ _ _ _ => rfl, fun _ _ _ _ => rfl, fun j m h1 h2 h3 h4 h5 h6 => hA j m (by omega) h1 h5, fun _ _ _ => rfl, fun _ _ _ => rfl, fun j m h1 h2 => hR j m (by omega) (by omega) (by omega) (by omega)⟩⟩
  · rw [hfi, hA _ _ (by omega) (by omega) (by omega), hR _ _ (by decide) (by decide) (by decide) (by decide)]
    obtain ⟨m, m1, m2, m3, m4⟩ := hw i hi
    exact ⟨m, m1, m2, by rw [hR _ _ (by decide) (by decide) (by decide) (by decide)]; exact m3, m4⟩
  · have e := hc_up (A := A) (A' := A') hh5 hA15
    rw [hA15', if_neg hhas, if_pos rfl] at e
    omega
  · obtain ⟨x1, ⟨xq, xf, x2, x3, x4, x5, x6, x7, x8⟩, x9, x10, x11⟩ := hH x hx
    unfold THo THa THt
    rw [hfi, hA 16 x (by omega) (by omega) (by omega), hA (E + 1) x (by omega) (by omega) (by omega), hA (E + 3) x (by omega) (by omega) (by omega), hA (E + 4) x (by omega) (by omega) (by omega), hR 336 x (by decide) (by decide) (by decide) (by decide), hR 334 x (by decide) (by decide) (by decide) (by decide), hR 332 x (by decide) (by decide) (by decide) (by decide)]
    by_cases hxh : x = hh
    · subst hxh
      rw [hA15', hE5', hR37', hR35', hR33', c11]
      refine ⟨Or.inl ⟨rfl, rfl⟩, ⟨q, f, by omega, c3, c4, fun r => absurd rfl r, c6, c7, Or.inr ⟨rfl, Or.inr ⟨rfl, by omega⟩⟩⟩, c9, c10, rfl⟩
    · rw [hA15 x hxh, hE5 x hxh, hR37 x hxh, hR35 x hxh, hR33 x hxh]
      refine ⟨?_, ⟨xq, xf, by omega, x3, x4, x5, x6, x7, x8⟩, x9, x10, x11⟩
      rcases x1 with x1 | ⟨m, m1, m2, m3, m4, m5⟩
      · exact Or.inl x1
      · have hmn : m ≠ n := fun e => by
          rw [e, n4, t_eq (by omega) (by omega)] at m4
          exact hxh m4.symm
        exact Or.inr ⟨m, m1, m2, m3, by rw [hR43 m hmn]; exact m4, by rw [hR _ _ (by decide) (by decide) (by decide) (by decide)]; exact m5⟩
  · obtain ⟨t1, t2, t3, t4, t5, t6, t7, t8⟩ := hTe
    exact ⟨t1, t2, t3, t4, t5, t6, t7, fun i hi => by rw [hA _ _ (by omega) (by omega) (by omega), hR _ _ (by decide) (by decide) (by decide) (by decide)]; exact t8 i hi⟩
/-- it does its node -/
theorem t_done (h : TSv I G A L J R T E p B nv nr kn nn dd tk tn hb z sc fb) (hh5 : hh < 5) (hhas : ¬ A 15 hh = -1) (hfl : ¬ A 16 hh = A (E + 1) hh) (hb30 : hb < 1073741824) : ∃ I' A' L' J' R' kn' nn' fb', f_X5_finish I G A L T (A 15 hh) (nI hh) = some (I', A', L') ∧ f_X7_turnOf J R (nI p) (nI hh) = some (J', R') ∧ TSv I' G (up2 (up2 A' (E + 3) hh (A' (E + 3) hh + 1)) 15 hh (-1)) L' J' R' T E p B nv nr kn' nn' (dd + 1) tk tn (hb + 1) z sc fb' ∧ XT T E I A L J R I' (up2 (up2 A' (E + 3) hh (A' (E + 3) hh + 1)) 15 hh (-1)) L' J' R' := by
  obtain ⟨⟨hT, hG, hPr, hmt, hX, hF, hd1, hd2, ht1, ht2, hw⟩, hE, hGT, hGE, hkn, hhc, hH, hTe, hlim, htn1, htn2, hT46, ht250⟩ := h
  have hT58 := (tr_o hT).1
  have hT22 : 22 ≤ T := by rcases hT with h | h | h <;> omega
  have hE14 := (te_o hE).1
  have hE2 : 2 ≤ E := by rcases hE with h | h <;> omega
  have hB58 := pr_ge (tp_at hPr)
  have hlT : lT T = 1711 := if_pos hT46
  have hnn := tt_nn hT hX
  have hknl := hX.2.2.2.1
  obtain ⟨n, n1, n2, n3, n4, n5⟩ := (hH hh hh5).1.resolve_left (fun q => hhas q.1)
  obtain ⟨⟨q, f, c2, c3, c4, c5, c6, c7, c8⟩, c9, c10, c11⟩ := (hH hh hh5).2
  have hq1 := c5 hhas
  obtain ⟨s1, s2, s3, s4⟩ := hX.2.2.2.2.2 n n1
  have s2 := s2 (fun q => q)
  have hn45 : R 345 n = 0 := s2.2.2.1.resolve_right (fun r => by have := s2.2.2.2.1 r; rw [n5] at this; exact absurd this z01)
  have hc0 := (fi_mem (A := A) (T := T) (kn := kn) (n := n) (by rw [hX.1]; exact n1)).1
  have hhc1 : 1 ≤ hc A := by
    have : hc A = hc A := rfl
    unfold hc
    obtain rfl | rfl | rfl | rfl | rfl : hh = 0 ∨ hh = 1 ∨ hh = 2 ∨ hh = 3 ∨ hh = 4 := by omega
    all_goals (rw [if_neg hhas]; omega)
  have hf0 : fb n = none := by
    rcases hF.2 n n1 with ⟨r, _⟩ | ⟨f', _, r, _⟩
    · exact r
    · rw [n5] at r; exact absurd r z01
  -- the reference before the opening
  obtain ⟨R5, e5⟩ : ∃ z, z = up2 (up2 R 337 hh (-9)) 334 hh (R 334 hh + 1) := ⟨_, rfl⟩
  have r5 : ∀ j m, j ≠ 337 → j ≠ 334 → R5 j m = R j m := fun j m q1 q2 => by rw [e5, up2_j q2, up2_j q1]
  have r537 : ∀ m, m ≠ hh → R5 337 m = R 337 m := fun m q => by rw [e5, up2_j (by decide), up2_k q]
  have r537' : R5 337 hh = -9 := by rw [e5, up2_j (by decide), up2_s]
  have r534 : ∀ m, m ≠ hh → R5 334 m = R 334 m := fun m q => by rw [e5, up2_k q, up2_j (by decide)]
  have r534' : R5 334 hh = R 334 hh + 1 := by rw [e5, up2_s]
  have hXX : TT I A L J R5 T B nv kn nn True fb (fun a => ¬ R5 345 a = 0) (fun _ => False) := TT_fr hX rfl (fun _ _ _ _ => rfl) (fun _ => rfl) (fun _ => rfl) rfl (fun j m h1 h2 h3 => r5 j m (by omega) (by omega))
  have hPr5 : TPr I A R5 p B nv nr := TPr_of hPr (fun _ _ _ _ => rfl) (fun _ _ _ _ => rfl) (fun j k h1 h2 => r5 j k (by omega) (by omega))
  obtain ⟨I', A', L', J', R', kn', nn', o1, o2, o3, o4, o5, o6, o7, o8, o9, o10, o11, o12, o13, o14, o15⟩ := t_open (h := hh) (dd := dd) hT hG hPr5 hmt (TT_ex (ex' := fun m => m = n) hXX (fun _ q => q.elim)) n1 hf0 hF.1 (by omega) hh5 hd1 hd2
  obtain ⟨x1, x2, x3, x4, x5, x6, x7, x8, x9, x10⟩ := o13
  have hrf : f_X7_turnOf J R (nI p) (nI hh) = some (J', R') := by
    have e1 : up2 R 337 hh (-9) 335 hh = R 335 hh := by rw [up2_j (by decide)]
    have e2 : up2 R 337 hh (-9) 336 hh = nI q := by rw [up2_j (by decide)]; exact c4
    have e3 : up2 R 337 hh (-9) 334 hh = R 334 hh := by rw [up2_j (by decide)]
    simp (disch := omega) only [f_X7_turnOf, gd_in, t_cl, n3, t_m9, if_false, bd, e1, e2, e3]
    rw [← e5, o2, Option.bind_some]
    by_cases hpos : 0 < R 335 hh
    · rw [if_pos hpos]
      have : ¬ nI q = R 335 hh := fun r => by
        rcases c8 with c8 | ⟨c8, _⟩
        · rw [c8] at r; exact hfl (by rw [c3, c7, r])
        · rw [c8] at hpos; exact absurd hpos (by decide)
      rw [if_neg this]
    · rw [if_neg hpos]
  have hB1 : ∀ m, A' (B + 1) m = A (B + 1) m := fun m => x3 _ _ (by omega) (by omega)
  have hTf : TT I' A' L' J' R' T B nv kn' nn' True (fun m => if m = n then (if dn R5 n < nv then some (kn, szo A B (dn R5 n)) else none) else fb m) (fun a => ¬ R' 345 a = 0) (fun _ => False) := by
    have hR45 : R' 345 n = 0 := by rw [x9 345 n (by omega) (by omega) (by omega) n1 (fun q => by omega), r5 _ _ (by decide) (by decide)]; exact hn45
    refine TT_mk o3 hT (fun _ => ?_) (fun a ha hne => ?_)
    · rw [o12 n n1]
      unfold TNd stg
      rw [o4, o5, o6, hR45, x9 343 n (by omega) (by omega) (by omega) n1 (fun q => by omega), r5 _ _ (by decide) (by decide), n4, if_pos rfl, if_neg z10]
      exact ⟨rfl, Or.inr rfl, Or.inl rfl, fun q => absurd q z01, fun _ => ⟨Or.inr ⟨hh, hh5, rfl⟩, fun _ => ⟨t_m9 (by omega), rfl⟩⟩⟩
    · by_cases han : a = n
      · rw [han]
        exact ⟨fun q => absurd rfl q.1, fun q => absurd hR45 q⟩
      · simp only [if_neg han] at hne
        have hann : a < nn := by
          rcases Nat.lt_or_ge a nn with r | r
          · exact r
          · exact absurd (hF.1 a r) hne
        rw [x9 345 a (by omega) (by omega) (by omega) hann (fun q => by omega)]
        exact ⟨fun q => q.2, fun q => ⟨han, q⟩⟩
  -- what is told of the helper
  obtain ⟨A2, eA⟩ : ∃ z, z = up2 (up2 A' (E + 3) hh (A' (E + 3) hh + 1)) 15 hh (-1) := ⟨_, rfl⟩
  refine ⟨I', A', L', J', R', kn', nn', (fun m => if m = n then (if dn R5 n < nv then some (kn, szo A B (dn R5 n)) else none) else fb m), by rw [n2]; exact o1, hrf, ?_⟩
  rw [← eA]
  have hA : ∀ j m, j ≠ E + 3 → j ≠ 15 → A2 j m = A' j m := fun j m q1 q2 => by rw [eA, up2_j q2, up2_j q1]
  have hA15 : ∀ m, m ≠ hh → A2 15 m = A 15 m := fun m q => by rw [eA, up2_k q, up2_j (by omega), x3 _ _ (by omega) (by omega)]
  have hA15' : A2 15 hh = -1 := by rw [eA, up2_s]
  have hE3 : ∀ m, m ≠ hh → A2 (E + 3) m = A (E + 3) m := fun m q => by rw [eA, up2_j (by omega), up2_k q, x3 _ _ (by omega) (by omega)]
  have hE3' : A2 (E + 3) hh = A (E + 3) hh + 1 := by rw [eA, up2_j (by omega), up2_s, x3 _ _ (by omega) (by omega)]
  have hAA : ∀ j m, j ≠ E + 3 → j ≠ 15 → (j < T + 2 ∨ T + 8 < j) → j ≠ T + 10 → A2 j m = A j m := fun j m q1 q2 q3 q4 => (hA j m q1 q2).trans (x3 j m q3 q4)
  have hTf2 : TT I' A2 L' J' R' T B nv kn' nn' True (fun m => if m = n then (if dn R5 n < nv then some (kn, szo A B (dn R5 n)) else none) else fb m) (fun a => ¬ R' 345 a = 0) (fun _ => False) := TT_fr hTf rfl (fun j m h1 h2 => hA j m (by omega) (by omega)) (fun m => hA _ _ (by omega) (by omega)) (fun _ => rfl) rfl (fun _ _ _ _ _ => rfl)
  have hfi : ∀ m, m < nn → fi A2 T kn' m = fi A T kn m := fun m hm => by
    rw [← o12 m hm]; unfold fi; rw [os_c (A := A') (A' := A2) (fun c _ => hA _ _ (by omega) (by omega))]
  have hRo : ∀ j m, (j < 338 ∨ j = 346 ∨ 349 < j) → j ≠ 364 → j ≠ 337 → j ≠ 334 → R' j m = R j m := fun j m q1 q2 q3 q4 => (x8 j m q1 q2).trans (r5 j m q3 q4)
  have hRn : ∀ j m, 338 ≤ j → j ≤ 345 → j ≠ 339 → m < nn → ¬ (j = 344 ∧ m = n) → R' j m = R j m := fun j m q1 q2 q3 q4 q5 => (x9 j m q1 q2 q3 q4 q5).trans (r5 j m (by omega) (by omega))
  refine ⟨⟨⟨hT, hG, TPr_of o14 (fun _ _ _ _ => rfl) (fun j k h1 h2 => hA j k (by omega) (by omega)) (fun _ _ _ _ => rfl), by rw [x2 15 (by decide) (by decide)]; exact hmt, hTf2, ?_, o7, o8, by rw [x2 11 (by decide) (by decide)]; exact ht1, by rw [x7 318 31 (fun q => by omega)]; exact ht2, fun i hi => ?_⟩, hE, hGT, hGE, by omega, ?_, fun x hx => ?_, ?_, ?_, ?_, ?_, hT46, ht250⟩, ?_⟩
  · -- FC
    refine ⟨fun m hm => ?_, fun m hm => ?_⟩
    · simp only [if_neg (show ¬ m = n by omega)]
      exact hF.1 m (by omega)
    · have hsz : ∀ i, szo A2 B i = szo A B i := fun i => by unfold szo; rw [hA _ _ (by omega) (by omega), hB1]
      rw [hsz]
      by_cases hmn : m = n
      · subst hmn
        have ed : dn R' m = dn R5 m := dn_c (x9 338 m (by omega) (by omega) (by omega) n1 (fun q => by omega))
        simp only [if_true, ed, o6]
        by_cases hd : dn R5 m < nv
        · rw [if_pos hd]; exact Or.inr ⟨kn, rfl, trivial, hd⟩
        · rw [if_neg hd]; exact Or.inl ⟨rfl, fun q => hd q.2⟩
      · simp only [if_neg hmn]
        rcases Nat.lt_or_ge m nn with hm1 | hm1
        · rw [hRn 344 m (by omega) (by omega) (by omega) hm1 (fun q => hmn q.2), dn_c (hRn 338 m (by omega) (by omega) (by omega) hm1 (fun q => by omega))]
          exact hF.2 m hm1
        · exact Or.inl ⟨hF.1 m hm1, fun q => by rw [o15 m hm1 hm] at q; exact absurd q.1 z01⟩
  · obtain ⟨m, m1, m2, m3, m4⟩ := hw i hi
    refine ⟨m, by omega, by rw [hRo _ _ (by omega) (by omega) (by omega) (by omega)]; exact m2, by rw [hRn 345 m (by omega) (by omega) (by omega) m1 (fun q => by omega)]; exact m3, by rw [hfi m m1, hAA _ _ (by omega) (by omega) (by omega) (by omega)]; exact m4⟩
  · have e := hc_up (A := A) (A' := A2) hh5 hA15
    rw [hA15', if_neg hhas, if_pos rfl] at e
    omega
  · obtain ⟨y1, ⟨xq, xf, y2, y3, y4, y5, y6, y7, y8⟩, y9, y10, y11⟩ := hH x hx
    unfold THo THa THt
    rw [hAA 16 x (by omega) (by omega) (by omega) (by omega), hAA (E + 1) x (by omega) (by omega) (by omega) (by omega), hAA (E + 4) x (by omega) (by omega) (by omega) (by omega), hAA (E + 5) x (by omega) (by omega) (by omega) (by omega), hRo 336 x (by omega) (by omega) (by omega) (by omega), hRo 335 x (by omega) (by omega) (by omega) (by omega), hRo 333 x (by omega) (by omega) (by omega) (by omega), hRo 332 x (by omega) (by omega) (by omega) (by omega), x8 337 x (by omega) (by omega), x8 334 x (by omega) (by omega)]
    by_cases hxh : x = hh
    · subst hxh
      rw [hA15', hE3', r537', r534', c9]
      refine ⟨Or.inl ⟨rfl, rfl⟩, ⟨q, f, by omega, c3, c4, fun r => absurd rfl r, c6, c7, ?_⟩, rfl, c10, c11⟩
      rcases c8 with c8 | ⟨c8, c8' | ⟨c8', _⟩⟩
      · exact Or.inl c8
      · exact Or.inr ⟨c8, Or.inl c8'⟩
      · exact absurd c8' hhas
    · rw [hA15 x hxh, hE3 x hxh, r537 x hxh, r534 x hxh]
      refine ⟨?_, ⟨xq, xf, by omega, y3, y4, y5, y6, y7, y8⟩, y9, y10, y11⟩
      rcases y1 with y1 | ⟨m, m1, m2, m3, m4, m5⟩
      · exact Or.inl y1
      · have hmn : m ≠ n := fun e => by
          rw [e, n4, t_eq (by omega) (by omega)] at m4
          exact hxh m4.symm
        exact Or.inr ⟨m, by omega, by rw [hfi m m1]; exact m2, m3, by rw [hRn 343 m (by omega) (by omega) (by omega) m1 (fun q => by omega)]; exact m4, by rw [hRn 344 m (by omega) (by omega) (by omega) m1 (fun q => hmn q.2)]; exact m5⟩
  · obtain ⟨t1, t2, t3, t4, t5, t6, t7, t8⟩ := hTe
    exact ⟨by rw [x1 E 0 (by omega) (by omega)]; exact t1, by rw [x7 318 15 (fun q => by omega)]; exact t2, t3, t4, by rw [x1 E 1 (by omega) (by omega)]; exact t5, by rw [x7 318 18 (fun q => by omega)]; exact t6, t7, fun i hi => by rw [hAA _ _ (by omega) (by omega) (by omega) (by omega), hRo 331 i (by omega) (by omega) (by omega) (by omega)]; exact t8 i hi⟩
  · rw [x1 14 2 (by omega) (by omega), x7 318 24 (fun q => by omega)]; exact hlim
  · rw [x1 14 3 (by omega) (by omega)]; exact htn1
  · rw [x7 318 28 (fun q => by omega)]; exact htn2
  · exact ⟨fun j k h1 h2 _ => x1 j k h1 h2, fun k h1 h2 _ => x2 k h1 h2, fun j m h1 h2 h3 h4 h5 h6 => hAA j m h3 h1 (by omega) (by omega), x5, fun j k h => x7 j k (fun q => h ⟨q.1, by omega⟩), fun j m h1 h2 => hRo j m (by omega) h2 (by omega) (by omega)⟩
end TM
