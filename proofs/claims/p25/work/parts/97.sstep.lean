/-! THE TIE: second: a step -/
section SE
variable {I A : Nat → Nat → Int32} {G : Nat → Nat → Nat} {L : Nat → Nat → Int64} {J R : Nat → Nat → Int32} {T B nv kn nn n0 p nr t : Nat} {sv : Prop} {fb : Nat → Option (Nat × Nat)} {tk tk' ex : Nat → Prop}
theorem TT_tkc (h : TT I A L J R T B nv kn nn sv fb tk ex) (hT : TrAt T) (ht : ∀ a, a < nn → fb a ≠ none → (tk a ↔ tk' a)) : TT I A L J R T B nv kn nn sv fb tk' ex := by
  have hnn := (tt_nn hT h).2
  obtain ⟨a, b, c, d, e, f⟩ := h
  refine ⟨a, b, c, d, e, fun n hn => ?_⟩
  obtain ⟨g1, g2, g3, g4⟩ := f n hn
  refine ⟨g1, g2, ?_, g4⟩
  rcases g3 with q | ⟨x, hx, q1, q2⟩
  · exact Or.inl q
  · have hne : fb x ≠ none := fun q => by
      rcases (f x (by omega)).2.2.2 with ⟨_, _, _, r⟩ | ⟨f', k', r, _⟩
      · exact r n hn q1
      · rw [q] at r; cases r
    refine Or.inr ⟨x, hx, q1, ?_⟩
    rcases q2 with ⟨q2, q3⟩ | ⟨q2, q3⟩
    · exact Or.inl ⟨(ht x (by omega) hne).mp q2, q3⟩
    · exact Or.inr ⟨fun r => q2 ((ht x (by omega) hne).mpr r), q3⟩
/-- the search of second() -/
def SX (I : Nat → Nat → Int32) (G : Nat → Nat → Nat) (A : Nat → Nat → Int32) (L : Nat → Nat → Int64) (J R : Nat → Nat → Int32) (p nv nr kn nn t : Nat) (fb : Nat → Option (Nat × Nat)) : Prop := G 46 14 = 58 + 52 * p ∧ TPr I A R p (58 + 52 * p) nv nr ∧ I 46 15 = 0 ∧ TT I A L J R 46 (58 + 52 * p) nv kn nn False fb (fun a => ¬ R 345 a = 0) (fun _ => False) ∧ FC A R (58 + 52 * p) nv nn fb ∧ I 46 10 = nI t ∧ J 318 30 = nI t ∧ I 46 11 = nI t ∧ J 318 31 = nI t ∧ kn ≤ 1 + 6 * t ∧ ∀ n, n < nn → R 345 n = 0 → R 344 n = 0
/-- what it leaves as it was -/
def XS (I A : Nat → Nat → Int32) (L : Nat → Nat → Int64) (J R I' A' : Nat → Nat → Int32) (L' : Nat → Nat → Int64) (J' R' : Nat → Nat → Int32) : Prop := (∀ j k, j ≠ 46 → j ≠ 57 → I' j k = I j k) ∧ (∀ j m, (j < 48 ∨ 56 < j) → A' j m = A j m) ∧ (∀ j m, j ≠ 47 → L' j m = L j m) ∧ (∀ j k, ¬ (j = 318 ∧ (k = 29 ∨ k = 30 ∨ k = 31 ∨ k = 64 ∨ k = 65)) → J' j k = J j k) ∧ (∀ j m, (j < 338 ∨ 349 < j) → j ≠ 364 → R' j m = R j m) ∧ Fb R R'
theorem XS_rf : XS I A L J R I A L J R := ⟨fun _ _ _ _ => rfl, fun _ _ _ => rfl, fun _ _ _ => rfl, fun _ _ _ => rfl, fun _ _ _ _ => rfl, Fb_rf⟩
theorem XS_tr {I1 A1 : Nat → Nat → Int32} {L1 : Nat → Nat → Int64} {J1 R1 I2 A2 : Nat → Nat → Int32} {L2 : Nat → Nat → Int64} {J2 R2 : Nat → Nat → Int32} (a : XS I A L J R I1 A1 L1 J1 R1) (b : XS I1 A1 L1 J1 R1 I2 A2 L2 J2 R2) : XS I A L J R I2 A2 L2 J2 R2 :=
  ⟨fun j k h1 h2 => (b.1 j k h1 h2).trans (a.1 j k h1 h2), fun j m h => (b.2.1 j m h).trans (a.2.1 j m h), fun j m h => (b.2.2.1 j m h).trans (a.2.2.1 j m h), fun j k h => (b.2.2.2.1 j k h).trans (a.2.2.2.1 j k h), fun j m h1 h2 => (b.2.2.2.2.1 j m h1 h2).trans (a.2.2.2.2.1 j m h1 h2), Fb_tr a.2.2.2.2.2 b.2.2.2.2.2⟩
theorem t_sstep (h : SX I G A L J R p nv nr kn nn t fb) (ht : t < 250) (hx : nxw R nn = some n0) : ∃ I1 A1 L1 I2 A2 J1 R1 J2 R2 kn' nn' fb', f_X5_finish I G A L 46 (nI (fi A 46 kn n0)) 0 = some (I1, A1, L1) ∧ f_X5_take I1 G A1 46 (nI (fi A 46 kn n0)) = some (I2, A2) ∧ f_X7_takes J R (nI n0) = some (J1, R1) ∧ f_X7_opens J1 R1 (nI p) (nI n0) 0 = some (J2, R2) ∧ SX I2 G A2 L1 J2 R2 p nv nr kn' nn' (t + 1) fb' ∧ n0 < nn' ∧ fi A2 46 kn' n0 = fi A 46 kn n0 ∧ XS I A L J R I2 A2 L1 J2 R2 := by
  obtain ⟨hG, hPr, hmt, hX, hF, hd1, hd2, ht1, ht2, hkn, h34⟩ := h
  have hT : TrAt 46 := Or.inr (Or.inr rfl)
  have hp5 := hPr.1
  obtain ⟨n1, n2, _⟩ := nxw_o hx
  have h44 := h34 n0 n1 n2
  have hl : lT 46 = 1501 := rfl
  have hf0 : fb n0 = none := by
    rcases hF.2 n0 n1 with ⟨a, _⟩ | ⟨f, _, b, _⟩
    · exact a
    · rw [h44] at b; exact absurd b z01
  obtain ⟨q1, q2⟩ := t_tk0 (t := t) hX hT n1 n2 ht ht2
  obtain ⟨J1, eJ1⟩ : ∃ z, z = up2 J 318 31 (nI (t + 1)) := ⟨_, rfl⟩
  obtain ⟨R1, eR1⟩ : ∃ z, z = up2 (up2 R 345 n0 1) 346 t (nI n0) := ⟨_, rfl⟩
  rw [← eJ1, ← eR1] at q1 q2
  have hR : ∀ j m, j ≠ 345 → j ≠ 346 → R1 j m = R j m := fun j m h1 h2 => by rw [eR1, up2_j h2, up2_j h1]
  have hR5 : ∀ m, m ≠ n0 → R1 345 m = R 345 m := fun m h => by rw [eR1, up2_j (by decide), up2_k h]
  have hR5' : R1 345 n0 = 1 := by rw [eR1, up2_j (by decide), up2_s]
  have hPr1 : TPr I A R1 p (58 + 52 * p) nv nr := TPr_of hPr (fun _ _ _ _ => rfl) (fun _ _ _ _ => rfl) (fun j k h1 h2 => hR j k (by omega) (by omega))
  obtain ⟨I1, A1, L1, J2, R2, kn', nn', o1, o2, o3, o4, o5, o6, o7, o8, o9, o10, o11, o12, ⟨x1, x2, x3, x4, x5, x6, x7, x8, x9, x10⟩, o14, o15⟩ := t_open (h := 0) (dd := t) (mt := 0) hT hG hPr1 hmt q2 n1 hf0 hF.1 (by omega) (by omega) hd1 (by rw [eJ1, up2_k (by decide)]; exact hd2)
  have hdn : ∀ m, m < nn → dn R2 m = dn R m := fun m hm => by unfold dn; rw [x9 338 m (by omega) (by omega) (by omega) hm (by omega), hR _ _ (by omega) (by omega)]
  have hdn1 : dn R1 n0 = dn R n0 := by unfold dn; rw [hR _ _ (by omega) (by omega)]
  have h245 : ∀ m, m < nn → R2 345 m = R1 345 m := fun m hm => x9 345 m (by omega) (by omega) (by omega) hm (by omega)
  have h244 : ∀ m, m < nn → m ≠ n0 → R2 344 m = R 344 m := fun m hm hne => by rw [x9 344 m (by omega) (by omega) (by omega) hm (by omega), hR _ _ (by omega) (by omega)]
  have hsz : ∀ x, szo A1 (58 + 52 * p) x = szo A (58 + 52 * p) x := fun x => by unfold szo; rw [x3 _ _ (by omega) (by omega)]
  obtain ⟨fb', efb⟩ : ∃ z, z = (fun n => if n = n0 then (if dn R1 n0 < nv then some (kn, szo A (58 + 52 * p) (dn R1 n0)) else none) else fb n) := ⟨_, rfl⟩
  rw [← efb] at o3
  have hF1 : FC A1 R2 (58 + 52 * p) nv nn' fb' := by
    refine ⟨fun m hm => ?_, fun m hm => ?_⟩
    · rw [efb]
      show (if m = n0 then _ else fb m) = none
      rw [if_neg (by omega)]
      exact hF.1 m (by omega)
    · rw [efb]
      by_cases e : m = n0
      · subst e
        by_cases e2 : dn R1 m < nv
        · refine Or.inr ⟨kn, ?_, o6, by rw [hdn m n1, ← hdn1]; exact e2⟩
          show (if m = m then _ else fb m) = _
          rw [if_pos rfl, if_pos e2, hsz, hdn m n1, hdn1]
        · refine Or.inl ⟨?_, fun q => e2 (by rw [hdn1, ← hdn m n1]; exact q.2)⟩
          show (if m = m then _ else fb m) = none
          rw [if_pos rfl, if_neg e2]
      · have e3 : (fun n => if n = n0 then (if dn R1 n0 < nv then some (kn, szo A (58 + 52 * p) (dn R1 n0)) else none) else fb n) m = fb m := if_neg e
        rw [e3]
        rcases Nat.lt_or_ge m nn with r | r
        · rw [h244 m r e, hdn m r, hsz]
          exact hF.2 m r
        · exact Or.inl ⟨hF.1 m r, fun q => by rw [o15 m r hm] at q; exact absurd q.1 z01⟩
  have hfb : ∀ a, a ≠ n0 → fb' a ≠ none → a < nn := fun a ha hne => by
    rcases Nat.lt_or_ge a nn with r | r
    · exact r
    · exact absurd (by rw [efb]; show (if a = n0 then _ else fb a) = none; rw [if_neg ha]; exact hF.1 a r) hne
  have hX2 : TT I1 A1 L1 J2 R2 46 (58 + 52 * p) nv kn' nn' False fb' (fun a => a ≠ n0 ∧ ¬ R2 345 a = 0) (fun n => n = n0) := TT_tkc o3 hT (fun a ha hne => by
    by_cases e : a = n0
    · exact ⟨fun q => absurd e q.1, fun q => absurd e q.1⟩
    · have := hfb a e hne
      rw [h245 a this, hR5 a e]
      exact ⟨fun q => ⟨e, q.2.2⟩, fun q => ⟨e, e, q.2⟩⟩)
  have h5n : R2 345 n0 = 1 := by rw [h245 n0 n1]; exact hR5'
  have hfi0 := o12 n0 n1
  obtain ⟨A2, q3, q4, q5, q6, q7⟩ := t_tk1 (G := G) (tk := fun a => ¬ R2 345 a = 0) (t := t) hX2 hT hG o14 hF1 (by omega) h5n o6 (fun s => s.elim) (fun a _ _ => Iff.rfl) ht (by rw [x2 _ (by decide) (by decide)]; exact ht1)
  rw [hfi0] at q3
  have hfi : fi A2 46 kn' = fi A1 46 kn' := by
    funext m; unfold fi; rw [os_c (A := A1) (A' := A2) (fun c _ => q5 _ _ (by omega) (by omega) (by omega))]
  refine ⟨I1, A1, L1, _, A2, J1, R1, J2, R2, kn', nn', fb', o1, q3, q1, o2, ⟨hG, TPr_of o14 (fun j k h1 h2 => up2_j (by omega)) (fun j k h1 h2 => q5 j k (by omega) (by omega) (by omega)) (fun _ _ _ _ => rfl), ?_, q4, FC_c hF1 (fun m => q5 _ _ (by omega) (by omega) (by omega)) (fun _ _ => rfl) (fun _ _ => rfl), ?_, o8, up2_s _ _ _ _, ?_, by omega, fun m hm hm5 => ?_⟩, by omega, by rw [hfi]; exact hfi0, ⟨fun j k h1 h2 => ?_, fun j m hj => ?_, fun j m hj => x5 j m hj, fun j k hj => ?_, fun j m h1 h2 => ?_, Fb_tr (qb_X7_takes J R (nI n0) J1 R1 q1).2 (qb_X7_opens J1 R1 (nI p) (nI n0) 0 J2 R2 o2).2⟩⟩
  · rw [up2_k (by decide), x2 _ (by decide) (by decide)]; exact hmt
  · rw [up2_k (by decide)]; exact o7
  · rw [x7 _ _ (by omega), eJ1, up2_s]
  · rcases Nat.lt_or_ge m nn with r | r
    · by_cases e : m = n0
      · subst e
        rw [h5n] at hm5
        exact absurd hm5 z10
      · rw [h244 m r e]
        rw [h245 m r, hR5 m e] at hm5
        exact h34 m r hm5
    · exact o15 m r hm
  · rw [up2_j h1]; exact x1 j k h1 h2
  · rw [q5 _ _ (by omega) (by omega) (by omega)]; exact x3 _ _ (by omega) (by omega)
  · rw [x7 _ _ (by omega), eJ1, up2_n (by omega)]
  · rw [x8 _ _ (by omega) h2]; exact hR _ _ (by omega) (by omega)
end SE
