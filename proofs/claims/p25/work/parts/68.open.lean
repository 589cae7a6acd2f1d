/-! THE TIE: a node is opened: one value more -/
theorem sm_l (f : Nat → Int32) : ∀ (k i : Nat) (a : Int32), sm f (k + 1) i a = sm f k i a + f (i + k)
  | 0, i, a => rfl
  | k + 1, i, a => by
    rw [sm, sm_l f k (i + 1) (a + f i), sm]
    congr 2
    omega
theorem pgd {B : Nat} (hB : PrAt B) : (B < 318 ∧ kd B = 1) ∧ (B + 1 < 318 ∧ kd (B + 1) = 8) ∧ ln (B + 1) = 6 := by
  obtain ⟨p, hp, rfl⟩ := hB
  have h := pr_all p hp
  exact ⟨⟨by omega, h.2.1⟩, ⟨by omega, h.2.2.1⟩, h.2.2.2.2.2.2.2.1⟩
theorem t_look {I A R : Nat → Nat → Int32} {p B nv nr v d o : Nat} {mt : Int32} (h : TPr I A R p B nv nr) (hJ : JuAt o) (hv : IA v 6) (hv58 : v < 58) (hd : d ≤ nv) (hro : RoW A B v d) : f_X0_look I A o B v (nI d) mt = some (jdI I o (lk I A B v nv nr d mt)) := by
  have hw := h.2.2.1
  have e1 : (I B 0).toNatClampNeg = nv := by rw [hw.2.2.1]; exact t_cl (by have := hw.1; omega)
  have e2 : (I B 1).toNatClampNeg = nr := by rw [hw.2.2.2.1]; exact t_cl (by have := hw.2.1; omega)
  have e3 : (nI d).toNatClampNeg = d := t_cl (by have := hw.1; omega)
  unfold f_X0_look
  rw [gd_t ⟨hJ, tp_at h, hv, hv58, by rw [e3], by rw [e1, e3]; exact hd, by rw [e1, e2]; exact hw, by rw [e3]; exact hro⟩, e1, e2, e3]
  rfl
theorem vsl_at {T : Nat} (hT : TrAt T) : IA (T + 10) 6 := ⟨by have := (tr_o hT).1; show _ < 378; omega, (tr_o hT).2.2.2.2.2.2.2.2.2.2.2.1, (tr_l hT).2.2.2.2.2.2.2.2.2.1⟩
/-- what the opening of a node leaves as it was; kn, nn: the nodes that there were -/
def XF (T kn nn : Nat) (I A : Nat → Nat → Int32) (L : Nat → Nat → Int64) (J R I' A' : Nat → Nat → Int32) (L' : Nat → Nat → Int64) (J' R' : Nat → Nat → Int32) : Prop :=
  (∀ j k, j ≠ T → j ≠ T + 11 → I' j k = I j k) ∧ (∀ k, k ≠ 9 → I' T k = I T k) ∧ (∀ j m, (j < T + 2 ∨ T + 8 < j) → j ≠ T + 10 → A' j m = A j m) ∧ (∀ j m, m < kn → j ≠ T + 10 → A' j m = A j m) ∧ (∀ j m, j ≠ T + 1 → L' j m = L j m) ∧ (∀ m, m < kn → L' (T + 1) m = L (T + 1) m) ∧ (∀ j k, ¬ (j = 318 ∧ (k = 29 ∨ k = 64 ∨ k = 65)) → J' j k = J j k) ∧ (∀ j m, (j < 338 ∨ j = 346 ∨ 349 < j) → j ≠ 364 → R' j m = R j m) ∧ (∀ j m, 338 ≤ j → j ≤ 345 → j ≠ 339 → m < nn → R' j m = R j m) ∧ (∀ m, m < 6 * nn → R' 339 m = R 339 m)
theorem XF_rf {T kn nn : Nat} {I A : Nat → Nat → Int32} {L : Nat → Nat → Int64} {J R : Nat → Nat → Int32} : XF T kn nn I A L J R I A L J R := ⟨fun _ _ _ _ => rfl, fun _ _ => rfl, fun _ _ _ _ => rfl, fun _ _ _ _ => rfl, fun _ _ _ => rfl, fun _ _ => rfl, fun _ _ _ => rfl, fun _ _ _ _ => rfl, fun _ _ _ _ _ _ => rfl, fun _ _ => rfl⟩
theorem XF_tr {T kn nn kn' nn' : Nat} {I A : Nat → Nat → Int32} {L : Nat → Nat → Int64} {J R I1 A1 : Nat → Nat → Int32} {L1 : Nat → Nat → Int64} {J1 R1 I2 A2 : Nat → Nat → Int32} {L2 : Nat → Nat → Int64} {J2 R2 : Nat → Nat → Int32} (a : XF T kn nn I A L J R I1 A1 L1 J1 R1) (b : XF T kn' nn' I1 A1 L1 J1 R1 I2 A2 L2 J2 R2) (hk : kn ≤ kn') (hn : nn ≤ nn') : XF T kn nn I A L J R I2 A2 L2 J2 R2 := by
  obtain ⟨a1, a2, a3, a4, a5, a6, a7, a8, a9, a10⟩ := a
  obtain ⟨b1, b2, b3, b4, b5, b6, b7, b8, b9, b10⟩ := b
  exact ⟨fun j k h1 h2 => (b1 j k h1 h2).trans (a1 j k h1 h2), fun k h => (b2 k h).trans (a2 k h), fun j m h1 h2 => (b3 j m h1 h2).trans (a3 j m h1 h2), fun j m h1 h2 => (b4 j m (by omega) h2).trans (a4 j m h1 h2), fun j m h => (b5 j m h).trans (a5 j m h), fun m h => (b6 m (by omega)).trans (a6 m h), fun j k h => (b7 j k h).trans (a7 j k h), fun j m h1 h2 => (b8 j m h1 h2).trans (a8 j m h1 h2), fun j m h1 h2 h3 h4 => (b9 j m h1 h2 h3 (by omega)).trans (a9 j m h1 h2 h3 h4), fun m h => (b10 m (by omega)).trans (a10 m h)⟩
/-- node n0, of d values, is being opened: y of the values below it are judged -/
def XI (I A : Nat → Nat → Int32) (L : Nat → Nat → Int64) (J R : Nat → Nat → Int32) (T B p nv nr d n0 kn0 y nn : Nat) (mt : Int32) (sv : Prop) (fb : Nat → Option (Nat × Nat)) (tk : Nat → Prop) (nb : Nat) : Prop :=
  TT I A L J R T B nv (kn0 + y) nn sv (fun n => if n = n0 then some (kn0, y) else fb n) (fun a => a ≠ n0 ∧ tk a) (fun n => n = n0) ∧ TPr I A R p B nv nr ∧ I T 15 = mt ∧ n0 < nn ∧ dn R n0 = d ∧ (∀ i, i < d → A (T + 10) i = R 339 (6 * n0 + i)) ∧ (∀ i, d < i → i < 6 → A (T + 10) i = -1) ∧ (∀ n, nn ≤ n → fb n = none) ∧ ∀ n, nb ≤ n → n < nn → R 344 n = 0
theorem dn_c {R R' : Nat → Nat → Int32} {n : Nat} (h : R' 338 n = R 338 n) : dn R' n = dn R n := by unfold dn; rw [h]
theorem wn_c {R R' : Nat → Nat → Int32} {n i : Nat} (h : R' 339 (6 * n + i) = R 339 (6 * n + i)) : wn R' n i = wn R n i := by unfold wn; rw [h]
theorem e8_c {w u : Nat → Nat} {d : Nat} (h : ∀ i, i < d → w i = u i) : e8 w d = e8 u d ∧ e7 w d = e7 u d := by
  have e : ∀ i, dg w d i = dg u d i := fun i => by
    unfold dg
    by_cases hi : i < d
    · rw [if_pos hi, if_pos hi, h i hi]
    · rw [if_neg hi, if_neg hi]
  unfold e8 e7
  rw [e, e, e, e, e, e]
  exact ⟨rfl, rfl⟩
theorem TNs_c {A A' : Nat → Nat → Int32} {L L' : Nat → Nat → Int64} {R R' : Nat → Nat → Int32} {T B nv n c : Nat} (h : TNs A L R T B nv n c) (hnv : nv ≤ 6) (h1 : A' (T + 2) c = A (T + 2) c) (h2 : L' (T + 1) c = L (T + 1) c) (h3 : ∀ i, A' (B + 1) i = A (B + 1) i) (h4 : R' 338 n = R 338 n) (h5 : ∀ i, i < 6 → R' 339 (6 * n + i) = R 339 (6 * n + i)) (h6 : R' 340 n = R 340 n) (h7 : R' 341 n = R 341 n) : TNs A' L' R' T B nv n c := by
  have ed := dn_c h4
  have hd := h.1
  have ew : ∀ i, i < dn R n → wn R' n i = wn R n i := fun i hi => wn_c (h5 i (by omega))
  obtain ⟨a1, a2, a3, a4, a5, a6, a7⟩ := h
  obtain ⟨q1, q2⟩ := e8_c ew
  unfold TNs
  rw [ed]
  refine ⟨a1, by rw [h4]; exact a2, by rw [h1]; exact a3, fun i hi => ?_, fun i h1 h2 => by rw [h5 i h2]; exact a5 i h1 h2, by rw [h2, h7, q1]; exact a6, by rw [h6, q2]; exact a7⟩
  unfold szo
  rw [ew i hi, h5 i (by omega), h3]
  exact a4 i hi
section OP
variable {I A : Nat → Nat → Int32} {L : Nat → Nat → Int64} {J R : Nat → Nat → Int32} {T B p nv nr d n0 kn0 y nn s nb : Nat} {mt : Int32} {sv : Prop} {fb : Nat → Option (Nat × Nat)} {tk : Nat → Prop} {G : Nat → Nat → Nat}
set_option maxHeartbeats 1000000 in
theorem t_step {k30 : (Nat → Nat → Int32) → (Nat → Nat → Int32) → (Nat → Nat → Int64) → Option ((Nat → Nat → Int32) × (Nat → Nat → Int32) × (Nat → Nat → Int64))} {k11 : (Nat → Nat → Int32) → (Nat → Nat → Int32) → Option ((Nat → Nat → Int32) × (Nat → Nat → Int32))} (hT : TrAt T) (hG : G T 14 = B) (hX : XI I A L J R T B p nv nr d n0 kn0 y nn mt sv fb tk nb) (hd : d < nv) (hs : A (B + 1) d = nI s) (hy : y < s) (hs6 : s ≤ 6) (hk : kn0 + y < lT T) (fu fu' : Nat) : ∃ I' A' L' J' R' nn', f_X5_finish_L85 T G k30 (fu + 1) (nI y) (lN (e8 (wn R n0) d)) (nI d) I A L = f_X5_finish_L85 T G k30 fu (nI (y + 1)) (lN (e8 (wn R n0) d)) (nI d) I' A' L' ∧ f_X7_opens_L40 (nI p) (nI n0) mt k11 (fu' + 1) (nI y) (nI d) J R = f_X7_opens_L40 (nI p) (nI n0) mt k11 fu' (nI (y + 1)) (nI d) J' R' ∧ XI I' A' L' J' R' T B p nv nr d n0 kn0 (y + 1) nn' mt sv fb tk nb ∧ XF T (kn0 + y) nn I A L J R I' A' L' J' R' ∧ nn ≤ nn' := by
  obtain ⟨hTT, hPr, hmt, hn0, hdn, hr1, hr2, hfb, hnb⟩ := hX
  have hBat := tp_at hPr
  have hB58 := pr_ge hBat
  have hB := hPr.2.1
  have hp := hPr.1
  have hT58 := (tr_o hT).1
  have hnv := hPr.2.2.1.1
  have hnr := hPr.2.2.1.2.1
  have hlT := (tr_l hT).2.2.2.2.2.2.2.2.2.2.2
  obtain ⟨hos, hkn, hnn, hknl, _, hnd⟩ := hTT
  have hnn1 : nn ≤ kn0 + y := by rw [← hos]; exact os_le _ _ _
  have hs0 := (hnd n0 hn0).1
  have hw6 := ns_6 hs0
  rw [hdn] at hw6
  -- the row
  have hA41 : ∀ i, i < 6 → up2 A (T + 10) d (nI y) (T + 10) i = if i < d then nI (wn R n0 i) else if i = d then nI y else -1 := fun i hi => by
    by_cases h1 : i = d
    · subst h1; rw [up2_s, if_neg (Nat.lt_irrefl i), if_pos rfl]
    · rw [up2_k h1]
      by_cases h2 : i < d
      · rw [if_pos h2, hr1 i h2]; exact (hs0.2.2.2.1 i (by rw [hdn]; exact h2)).1
      · rw [if_neg h2, if_neg h1]; exact hr2 i (by omega) hi
  have hR19 : ∀ i, i < 6 → up2 (nwr R n0 6) 364 d (nI y) 364 i = if i < d then nI (wn R n0 i) else if i = d then nI y else -9 := fun i hi => by
    by_cases h1 : i = d
    · subst h1; rw [up2_s, if_neg (Nat.lt_irrefl i), if_pos rfl]
    · rw [up2_k h1]
      unfold nwr
      rw [if_pos ⟨rfl, hi⟩]
      by_cases h2 : i < d
      · rw [if_pos h2]; exact (hs0.2.2.2.1 i (by rw [hdn]; exact h2)).1
      · rw [if_neg h2, if_neg h1]; exact hs0.2.2.2.2.1 i (by rw [hdn]; omega) hi
  have hro : TRo (up2 A (T + 10) d (nI y)) (up2 (nwr R n0 6) 364 d (nI y)) (T + 10) := fun i hi => by
    rw [hA41 i hi, hR19 i hi]
    by_cases h2 : i < d
    · rw [if_pos h2, if_pos h2]; exact Or.inr ⟨_, hw6 i h2, rfl, rfl⟩
    · rw [if_neg h2, if_neg h2]
      by_cases h1 : i = d
      · rw [if_pos h1, if_pos h1]; exact Or.inr ⟨y, by omega, rfl, rfl⟩
      · rw [if_neg h1, if_neg h1]; exact Or.inl ⟨rfl, rfl⟩
  have hPr2 : TPr I (up2 A (T + 10) d (nI y)) (up2 (nwr R n0 6) 364 d (nI y)) p B nv nr := TPr_of hPr (fun _ _ _ _ => rfl) (fun j k h1 _ => up2_j (by omega)) (fun j k h1 h2 => by rw [up2_j (by omega)]; unfold nwr; rw [if_neg (fun q => by omega)])
  have hsz : ∀ i, szo (up2 A (T + 10) d (nI y)) B i = szo A B i := fun i => by unfold szo; rw [up2_j (by omega)]
  have hRoW : RoW (up2 A (T + 10) d (nI y)) B (T + 10) (d + 1) := by
    refine ⟨fun i hi => ?_, fun i h1 h2 => ?_⟩
    · rw [hA41 i (by omega), hsz]
      by_cases h2 : i < d
      · rw [if_pos h2]
        have := hs0.2.2.2.1 i (by rw [hdn]; exact h2)
        exact vp_in_nI this.2.1 (by omega)
      · rw [if_neg h2, if_pos (by omega), show i = d by omega]
        unfold szo
        rw [hs, t_cl (by omega)]
        exact vp_in_nI hy (by omega)
    · rw [hA41 i h2, if_neg (by omega), if_neg (by omega)]
  obtain ⟨J21, hwh, hJf, hJ0, hJ1⟩ := r_whatIs (J := J) (mt := mt) hPr2 hro (by omega) hRoW (show d + 1 ≤ nv by omega)
  have hlk := t_look (o := T + 11) (mt := mt) hPr2 (ju_at hT) (vsl_at hT) (by omega) (show d + 1 ≤ nv by omega) hRoW
  have hlr := lk_r (I := I) (A := up2 A (T + 10) d (nI y)) (B := B) (v := T + 10) (nv := nv) (nr := nr) (d := d + 1) (mt := mt) hnv hnr (by omega)
  generalize lk I (up2 A (T + 10) d (nI y)) B (T + 10) nv nr (d + 1) mt = w3 at hwh hJ0 hJ1 hlk hlr
  -- the class's step
  have eI9 : jdI I (T + 11) w3 T 9 = nI (kn0 + y) := by unfold jdI; rw [up2_j (by omega), up2_j (by omega), up2_j (by omega)]; exact hkn
  have eI0 : jdI I (T + 11) w3 (T + 11) 0 = w3.1 := by unfold jdI; rw [up2_k (by decide), up2_k (by decide), up2_s]
  have eI1 : jdI I (T + 11) w3 (T + 11) 1 = w3.2.1 := by unfold jdI; rw [up2_k (by decide), up2_s]
  have eI2 : jdI I (T + 11) w3 (T + 11) 2 = w3.2.2 := by unfold jdI; rw [up2_s]
  obtain ⟨A', hadd, hAf, b2, b3, b4, b5, b6, b7, b8⟩ := t_add (A := up2 A (T + 10) d (nI y)) (L := L) (dp := d + 1) (row := lN (e8 (wn R n0) d) ||| ((nI y + 1).toInt64 <<< ((sh (nI d)).toInt64 &&& 63))) hT eI9 hk (by omega) (by
      rw [eI0]
      rcases hlr with ⟨q, _⟩ | ⟨⟨x, _, hx, q⟩, _⟩
      · exact ⟨0, by omega, q⟩
      · exact ⟨x, by omega, q⟩) (by
      rw [eI1]
      rcases hlr with ⟨_, q⟩ | ⟨_, x, hx, q⟩
      · exact Or.inl q
      · exact Or.inr ⟨x, hx, q⟩)
  rw [eI2, e8_s hw6 (by omega) (by omega)] at hadd
  rw [eI0] at b3
  rw [eI1] at b4
  obtain ⟨pg1, pg2, pg3⟩ := pgd hBat
  obtain ⟨g0, g1, g2, g3, g4, g5, g6, g7, g8, g9, g10, g11⟩ := tgd hT
  have hcl : f_X5_finish_L85 T G k30 (fu + 1) (nI y) (lN (e8 (wn R n0) d)) (nI d) I A L = f_X5_finish_L85 T G k30 fu (nI (y + 1)) (lN (e8 (wn R n0) d)) (nI d) (up2 (jdI I (T + 11) w3) T 9 (nI (kn0 + y + 1))) A' (up2 L (T + 1) (kn0 + y) (plc w3.2.2 (lN (e8 (fun i => if i = d then y else wn R n0 i) (d + 1))))) := by
    simp (disch := omega) only [f_X5_finish_L85, hG, gd_t pg1, gd_t pg2, pg3, gd_in, t_cl, hs, t_lt, hy, if_true, hkn, (tr_l hT).1, hk, gd_t g10, (tr_l hT).2.2.2.2.2.2.2.2.2.1, bd, gd_t g11, hmt]
    rw [show nI d + 1 = nI (d + 1) from nI_1 d, hlk, Option.bind_some]
    unfold f_X5_shiftOf
    rw [Option.bind_some, show 3 * (5 - nI d) = sh (nI d) from rfl, e8_s hw6 (by omega) (by omega)]
    rw [hadd, Option.bind_some, nI_1]
  -- the reference's step
  have eS := (hPr.2.2.2.2.2.1 d (by omega)).trans hs
  have hn02 : n0 < 2000 := by omega
  obtain ⟨R28, e28⟩ : ∃ z, z = up2 (up2 (up2 (nwr R n0 6) 364 d (nI y)) 347 (6 * n0 + y) w3.1) 348 (6 * n0 + y) w3.2.1 := ⟨_, rfl⟩
  have r28 : ∀ j m, j ≠ 364 → ¬ ((j = 347 ∨ j = 348) ∧ m = 6 * n0 + y) → R28 j m = R j m := fun j m h1 h2 => by
    rw [e28]
    unfold up2 nwr
    rw [if_neg (fun q => h2 ⟨Or.inr q.1, q.2⟩), if_neg (fun q => h2 ⟨Or.inl q.1, q.2⟩)]
    simp only [h1, false_and, if_false]
  have r28a : R28 347 (6 * n0 + y) = w3.1 := by rw [e28, up2_j (by omega), up2_s]
  have r28b : R28 348 (6 * n0 + y) = w3.2.1 := by rw [e28, up2_s]
  have r28c : ∀ i, i < 6 → R28 364 i = if i < d then nI (wn R n0 i) else if i = d then nI y else -9 := fun i hi => by rw [e28, up2_j (by omega), up2_j (by omega)]; exact hR19 i hi
  have hJ29 : J21 318 29 = nI nn := (hJf 318 29 (fun q => by omega)).trans hnn
  have hrf : f_X7_opens_L40 (nI p) (nI n0) mt k11 (fu' + 1) (nI y) (nI d) J R = if w3.1 = 0 then (Option.bind (f_X7_addNode J21 R28 (nI (d + 1)) (nI n0)) fun (I30, A31) => f_X7_opens_L40 (nI p) (nI n0) mt k11 fu' (nI (y + 1)) (nI d) I30 (up2 A31 349 n0 (A31 349 n0 + 1))) else f_X7_opens_L40 (nI p) (nI n0) mt k11 fu' (nI (y + 1)) (nI d) J21 R28 := by
    simp (disch := omega) only [f_X7_opens_L40, m6, gd_in, t_cl, eS, t_lt, hy, if_true, r_rowOf, Option.bind_some, bd, nI_1, hwh]
    by_cases h0 : w3.1 = 0
    · have e9 : w3.2.1 = -9 := by
        rcases hlr with ⟨_, q⟩ | ⟨⟨x, x1, x2, q⟩, _⟩
        · exact q
        · rw [h0] at q; exact absurd q.symm (nI_ne0 (by omega) (by omega))
      rw [e9] at e28
      rw [if_pos h0, if_pos h0, if_pos h0, e28]
    · rw [if_neg h0, if_neg h0, if_neg h0, hJ1 h0, e28]
  -- the class's memory
  have hA1 : ∀ j m, j ≠ T + 10 → ¬ (T + 2 ≤ j ∧ j ≤ T + 8 ∧ m = kn0 + y) → A' j m = A j m := fun j m h1 h2 => (hAf j m h2).trans (up2_j h1)
  have hA10 : ∀ i, A' (T + 10) i = up2 A (T + 10) d (nI y) (T + 10) i := fun i => hAf _ _ (fun q => by omega)
  have hL1 : ∀ j m, ¬ (j = T + 1 ∧ m = kn0 + y) → up2 L (T + 1) (kn0 + y) (plc w3.2.2 (lN (e8 (fun i => if i = d then y else wn R n0 i) (d + 1)))) j m = L j m := fun j m h => by unfold up2; rw [if_neg h]
  have hI1 : ∀ j k, j ≠ T → j ≠ T + 11 → up2 (jdI I (T + 11) w3) T 9 (nI (kn0 + y + 1)) j k = I j k := fun j k h1 h2 => by unfold jdI; rw [up2_j h1, up2_j h2, up2_j h2, up2_j h2]
  have hI2 : ∀ k, k ≠ 9 → up2 (jdI I (T + 11) w3) T 9 (nI (kn0 + y + 1)) T k = I T k := fun k h => by unfold jdI; rw [up2_k h, up2_j (by omega), up2_j (by omega), up2_j (by omega)]
  have hosA : os A' T (kn0 + y) = os A T (kn0 + y) := os_c (fun c hc => hA1 _ _ (by omega) (fun q => by omega))
  have hosS := os_s A' T (kn0 + y)
  rw [hosA, b3] at hosS
  -- the old nodes
  have hold : ∀ (R' : Nat → Nat → Int32) (nn' : Nat), (∀ j m, 338 ≤ j → j ≤ 345 → j ≠ 339 → m < nn → R' j m = R j m) → (∀ m, m < 6 * nn → R' 339 m = R 339 m) → (∀ n x, n < nn → x < 6 → ¬ (n = n0 ∧ x = y) → R' 347 (6 * n + x) = R 347 (6 * n + x) ∧ R' 348 (6 * n + x) = R 348 (6 * n + x)) → R' 347 (6 * n0 + y) = w3.1 → R' 348 (6 * n0 + y) = w3.2.1 → (∀ n, n < nn → n ≠ n0 → R' 349 n = R 349 n) → R' 349 n0 = R 349 n0 + (if w3.1 = 0 then 1 else 0) → (∀ m, m < nn → fi A' T (kn0 + y + 1) m = fi A T (kn0 + y) m) → (∀ m, nn ≤ m → m < nn' → R' 342 m = nI n0 ∧ fi A' T (kn0 + y + 1) m = kn0 + y) → nn' ≤ nn + 1 → ∀ n, n < nn → TNs A' (up2 L (T + 1) (kn0 + y) (plc w3.2.2 (lN (e8 (fun i => if i = d then y else wn R n0 i) (d + 1))))) R' T B nv n (fi A T (kn0 + y) n) ∧ (¬ n = n0 → TNd A' R' T sv n (fi A T (kn0 + y) n)) ∧ TNr A' R' T (fun a => a ≠ n0 ∧ tk a) n (fi A T (kn0 + y) n) ∧ TNc A' R' T (kn0 + y + 1) nn' (fun n => if n = n0 then some (kn0, y + 1) else fb n) n (fi A T (kn0 + y) n) := by
    intro R' nn' F1 F2 F3 F4 F5 F6 F7 F8 F9 F10 n hn
    obtain ⟨a, b, c, e⟩ := hnd n hn
    have hc := (fi_mem (A := A) (T := T) (kn := kn0 + y) (n := n) (by rw [hos]; exact hn)).1
    have hAc : ∀ j, j ≠ T + 10 → A' j (fi A T (kn0 + y) n) = A j (fi A T (kn0 + y) n) := fun j h => hA1 j _ h (fun q => by omega)
    refine ⟨TNs_c a hnv (hAc _ (by omega)) (hL1 _ _ (fun q => by omega)) (fun i => hA1 _ _ (by omega) (fun q => by omega)) (F1 338 n (by omega) (by omega) (by omega) hn) (fun i hi => F2 _ (by omega)) (F1 340 n (by omega) (by omega) (by omega) hn) (F1 341 n (by omega) (by omega) (by omega) hn), fun hne => ?_, ?_, ?_⟩
    · have b := b hne
      unfold TNd stg at b ⊢
      rw [hAc _ (by omega), hAc _ (by omega), F1 343 n (by omega) (by omega) (by omega) hn, F1 344 n (by omega) (by omega) (by omega) hn, F1 345 n (by omega) (by omega) (by omega) hn]
      exact b
    · unfold TNr at c ⊢
      rw [hAc _ (by omega), F1 342 n (by omega) (by omega) (by omega) hn]
      exact c
    · unfold TNc at e ⊢
      by_cases hne : n = n0
      · simp only [if_pos hne] at e ⊢
        rcases e with ⟨q, _⟩ | ⟨f, k, e1, e2, e3, e4, e5, e6, e7⟩
        · cases q
        · cases e1
          refine Or.inr ⟨kn0, y + 1, rfl, by rw [hAc _ (by omega)]; exact e2, by omega, by omega, fun x hx => ?_, ?_, fun m hm => ?_⟩
          · rw [hne]
            by_cases hxy : x = y
            · rw [hxy, b3, b4, F4, F5]; exact ⟨rfl, rfl⟩
            · rw [hA1 _ _ (by omega) (fun q => by omega), hA1 _ _ (by omega) (fun q => by omega), (F3 n0 x (by omega) (by omega) (fun q => hxy q.2)).1, (F3 n0 x (by omega) (by omega) (fun q => hxy q.2)).2]
              have := e5 x (by omega)
              rw [hne] at this
              exact this
          · rw [hne, F7, sm_l, ← hne, e6, Nat.zero_add, b3]
            congr 1
            exact sm_c _ _ _ (fun i _ hi => by rw [hA1 _ _ (by omega) (fun q => by omega)])
          · rcases Nat.lt_or_ge m nn with hm1 | hm1
            · have hcm := (fi_mem (A := A) (T := T) (kn := kn0 + y) (n := m) (by rw [hos]; exact hm1)).1
              rw [F8 m hm1, F1 342 m (by omega) (by omega) (by omega) hm1, e7 m hm1]
              constructor <;> (intro q; omega)
            · obtain ⟨q1, q2⟩ := F9 m hm1 hm
              rw [q1, q2, hne]
              exact ⟨fun _ => by omega, fun _ => rfl⟩
      · simp only [if_neg hne] at e ⊢
        rcases e with ⟨q, q1, q2, q3⟩ | ⟨f, k, e1, e2, e3, e4, e5, e6, e7⟩
        · refine Or.inl ⟨q, by rw [hAc _ (by omega)]; exact q1, by rw [F6 n hn hne]; exact q2, fun m hm => ?_⟩
          rcases Nat.lt_or_ge m nn with hm1 | hm1
          · rw [F1 342 m (by omega) (by omega) (by omega) hm1]; exact q3 m hm1
          · rw [(F9 m hm1 hm).1, ne_eq, t_eq (by omega) (by omega)]; omega
        · refine Or.inr ⟨f, k, e1, by rw [hAc _ (by omega)]; exact e2, e3, by omega, fun x hx => ?_, ?_, fun m hm => ?_⟩
          · rw [hA1 _ _ (by omega) (fun q => by omega), hA1 _ _ (by omega) (fun q => by omega), (F3 n x hn (by omega) (fun q => hne q.1)).1, (F3 n x hn (by omega) (fun q => hne q.1)).2]
            exact e5 x hx
          · rw [F6 n hn hne, e6]
            exact sm_c _ _ _ (fun i _ hi => by rw [hA1 _ _ (by omega) (fun q => by omega)])
          · rcases Nat.lt_or_ge m nn with hm1 | hm1
            · rw [F8 m hm1, F1 342 m (by omega) (by omega) (by omega) hm1]; exact e7 m hm1
            · obtain ⟨q1, q2⟩ := F9 m hm1 hm
              rw [q1, q2, t_eq (by omega) (by omega)]
              constructor <;> (intro q; omega)
  have hPrF : ∀ R' : Nat → Nat → Int32, (∀ j m, 319 ≤ j → j ≤ 328 → R' j m = R j m) → TPr (up2 (jdI I (T + 11) w3) T 9 (nI (kn0 + y + 1))) A' R' p B nv nr := fun R' h => TPr_of hPr (fun j k h1 h2 => hI1 j k (by omega) (by omega)) (fun j k h1 h2 => hA1 j k (by omega) (fun q => by omega)) h
  have hrow1 : ∀ i, i < d → A' (T + 10) i = R 339 (6 * n0 + i) := fun i hi => by rw [hA10, up2_k (by omega)]; exact hr1 i hi
  have hrow2 : ∀ i, d < i → i < 6 → A' (T + 10) i = -1 := fun i h1 h2 => by rw [hA10, up2_k (by omega)]; exact hr2 i h1 h2
  by_cases h0 : w3.1 = 0
  · -- it is open
    rw [if_pos h0] at hosS hrf
    obtain ⟨R31, hra, ra0, ra1, ra2, ra3, ra4, ra5, ra6, ra7, ra8, ra9⟩ := r_add (J := J21) (R := R28) (nn := nn) (d := d + 1) (w := fun i => if i = d then y else wn R n0 i) (a2 := nI n0) hJ29 (by omega) (by omega) (fun i hi => by
      rw [r28c i (by omega)]
      by_cases h2 : i < d
      · rw [if_pos h2]; simp only [if_neg (show ¬ i = d by omega)]
      · rw [if_neg h2, if_pos (show i = d by omega)]; simp only [if_pos (show i = d by omega)])
    rw [hra, Option.bind_some] at hrf
    dsimp only at hrf
    obtain ⟨R', eR'⟩ : ∃ z, z = up2 R31 349 n0 (R31 349 n0 + 1) := ⟨_, rfl⟩
    rw [← eR'] at hrf
    have q31 : ∀ j m, ¬ ((j = 338 ∨ j = 340 ∨ j = 341 ∨ j = 342 ∨ j = 343 ∨ j = 344 ∨ j = 345 ∨ j = 349) ∧ m = nn) → ¬ (j = 339 ∧ 6 * nn ≤ m ∧ m < 6 * nn + 6) → ¬ (j = 349 ∧ m = n0) → R' j m = R28 j m := fun j m h1 h2 h3 => by rw [eR']; unfold up2; rw [if_neg h3]; exact ra0 j m h1 h2
    have qn : ∀ j, j ≠ 349 → R' j nn = R31 j nn := fun j h => by rw [eR', up2_j h]
    have F1 : ∀ j m, 338 ≤ j → j ≤ 345 → j ≠ 339 → m < nn → R' j m = R j m := fun j m h1 h2 h3 h4 => (q31 j m (fun q => by omega) (fun q => by omega) (fun q => by omega)).trans (r28 j m (by omega) (fun q => by omega))
    have F2 : ∀ m, m < 6 * nn → R' 339 m = R 339 m := fun m h => (q31 339 m (fun q => by omega) (fun q => by omega) (fun q => by omega)).trans (r28 339 m (by omega) (fun q => by omega))
    have F3a : ∀ j m, (j = 347 ∨ j = 348) → R' j m = R28 j m := fun j m h => q31 j m (fun q => by omega) (fun q => by omega) (fun q => by omega)
    have hlen : (os A' T (kn0 + y + 1)).length = nn + 1 := by rw [hosS, List.length_append, hos]; rfl
    have F8 : ∀ m, m < nn → fi A' T (kn0 + y + 1) m = fi A T (kn0 + y) m := fun m hm => by
      unfold fi
      rw [hosS, List.getD_eq_getElem?_getD, List.getElem?_append_left (by rw [hos]; exact hm), ← List.getD_eq_getElem?_getD]
    have F9 : fi A' T (kn0 + y + 1) nn = kn0 + y := by
      unfold fi
      rw [hosS, List.getD_eq_getElem?_getD, List.getElem?_append_right (by rw [hos]; exact Nat.le_refl _), hos, Nat.sub_self]
      rfl
    have hS := hold R' (nn + 1) F1 F2 (fun n x hn hx hne => by
        rw [F3a 347 _ (Or.inl rfl), F3a 348 _ (Or.inr rfl), r28 347 _ (by omega) (fun q => hne (by omega)), r28 348 _ (by omega) (fun q => hne (by omega))]
        exact ⟨rfl, rfl⟩) (by rw [F3a 347 _ (Or.inl rfl)]; exact r28a) (by rw [F3a 348 _ (Or.inr rfl)]; exact r28b) (fun n hn hne => (q31 349 n (fun q => by omega) (fun q => by omega) (fun q => hne q.2)).trans (r28 349 n (by omega) (fun q => by omega))) (by
        rw [eR', up2_s, if_pos h0, ra0 349 n0 (fun q => by omega) (fun q => by omega), r28 349 n0 (by omega) (fun q => by omega)]) F8 (fun m h1 h2 => by
        obtain rfl : m = nn := by omega
        exact ⟨(qn 342 (by decide)).trans ra2, F9⟩) (Nat.le_refl _)
    refine ⟨_, A', _, _, R', nn + 1, hcl, hrf, ?_, ?_, by omega⟩
    · refine ⟨⟨hlen, by rw [up2_s]; rfl, by rw [up2_s], by omega, hnv, fun n hn => ?_⟩, hPrF R' (fun j m h1 h2 => (q31 j m (fun q => by omega) (fun q => by omega) (fun q => by omega)).trans (r28 j m (by omega) (fun q => by omega))), by rw [hI2 15 (by decide)]; exact hmt, by omega, by rw [dn_c (F1 338 n0 (by omega) (by omega) (by omega) hn0)]; exact hdn, fun i hi => by rw [hrow1 i hi, F2 _ (by omega)], hrow2, fun n hn => hfb n (by omega), fun n h1 h2 => by
        rcases Nat.lt_or_ge n nn with h3 | h3
        · rw [F1 344 n (by omega) (by omega) (by omega) h3]; exact hnb n h1 h3
        · rw [show n = nn by omega, qn 344 (by decide)]; exact ra5⟩
      rcases Nat.lt_or_ge n nn with hn1 | hn1
      · rw [show kn0 + (y + 1) = kn0 + y + 1 from rfl, F8 n hn1]
        exact hS n hn1
      · obtain rfl : n = nn := by omega
        rw [show kn0 + (y + 1) = kn0 + y + 1 from rfl, F9]
        have hdn' : dn R' n = d + 1 := by unfold dn; rw [qn 338 (by decide), ra1, t_cl (by omega)]
        have hrow' : ∀ i, i < 6 → R' 339 (6 * n + i) = if i < d + 1 then nI (if i = d then y else wn R n0 i) else -9 := fun i hi => by rw [eR', up2_j (by omega)]; exact ra9 i hi
        have hwn' : ∀ i, i < d + 1 → wn R' n i = if i = d then y else wn R n0 i := fun i hi => by
          unfold wn
          rw [hrow' i (by omega), if_pos hi]
          apply t_cl
          by_cases h1 : i = d
          · rw [if_pos h1]; omega
          · rw [if_neg h1]; have := hw6 i (by omega); omega
        obtain ⟨z1, z2⟩ := e8_c (w := wn R' n) (u := fun i => if i = d then y else wn R n0 i) (d := d + 1) hwn'
        have hszA : ∀ i, szo A' B i = szo A B i := fun i => by unfold szo; rw [hA1 _ _ (by omega) (fun q => by omega)]
        refine ⟨⟨by rw [hdn']; omega, by rw [hdn', qn 338 (by decide)]; exact ra1, by rw [hdn']; exact b2, fun i hi => ?_, fun i h1 h2 => ?_, ?_, ?_⟩, fun hne => ?_, ?_, ?_⟩
        · rw [hdn'] at hi
          rw [hwn' i hi, hrow' i (by omega), if_pos hi, hszA]
          refine ⟨rfl, ?_⟩
          by_cases h1 : i = d
          · rw [if_pos h1, h1]; unfold szo; rw [hs, t_cl (by omega)]; exact ⟨hy, hs6⟩
          · rw [if_neg h1]; exact (hs0.2.2.2.1 i (by rw [hdn]; omega)).2
        · rw [hdn'] at h1
          rw [hrow' i h2, if_neg (by omega)]
        · rw [up2_s, hdn', z1, qn 341 (by decide), ra3, hJ0 h0]
        · rw [hdn', z2, qn 340 (by decide)]; exact ra8
        · unfold TNd stg
          rw [qn 343 (by decide), qn 344 (by decide), qn 345 (by decide), ra4, ra5, ra6, b5, if_pos rfl, if_pos rfl, if_pos rfl]
          exact ⟨rfl, Or.inl rfl, Or.inl rfl, fun q => absurd q z01, fun _ => ⟨Or.inl rfl, fun q => absurd q z01⟩⟩
        · exact Or.inr ⟨n0, hn0, (qn 342 (by decide)).trans ra2, Or.inr ⟨fun q => q.1 rfl, b8⟩⟩
        · refine Or.inl ⟨?_, b7, ?_, fun m hm => ?_⟩
          · simp only [if_neg (show ¬ n = n0 by omega)]; exact hfb n (Nat.le_refl n)
          · rw [eR', up2_k (by omega)]; exact ra7
          · rcases Nat.lt_or_ge m n with hm1 | hm1
            · rw [F1 342 m (by omega) (by omega) (by omega) hm1]
              rcases (hnd m hm1).2.2.1 with ⟨q, _⟩ | ⟨x, hx, q, _⟩
              · rw [q]; exact fun r => t_m9 (n := n) (by omega) r.symm
              · rw [q, ne_eq, t_eq (by omega) (by omega)]; omega
            · obtain rfl : m = n := by omega
              rw [qn 342 (by decide), ra2, ne_eq, t_eq (by omega) (by omega)]; omega
    · refine ⟨hI1, hI2, fun j m h1 h2 => hA1 j m h2 (fun q => by omega), fun j m h1 h2 => hA1 j m h2 (fun q => by omega), fun j m h => hL1 j m (fun q => h q.1), fun m h => hL1 _ _ (fun q => by omega), fun j k h => ?_, fun j m h1 h2 => (q31 j m (fun q => by omega) (fun q => by omega) (fun q => by omega)).trans (r28 j m h2 (fun q => by omega)), fun j m h1 h2 h3 h4 => F1 j m h1 h2 h3 h4, F2⟩
      have hk29 : ¬ (j = 318 ∧ k = 29) := fun q => h ⟨q.1, Or.inl q.2⟩
      unfold up2
      rw [if_neg hk29]
      exact hJf j k (fun q => h ⟨q.1, Or.inr q.2⟩)
  · -- it is not
    rw [if_neg h0, List.append_nil] at hosS
    rw [if_neg h0] at hrf
    have F1 : ∀ j m, 338 ≤ j → j ≤ 345 → j ≠ 339 → m < nn → R28 j m = R j m := fun j m h1 h2 h3 h4 => r28 j m (by omega) (fun q => by omega)
    have F2 : ∀ m, m < 6 * nn → R28 339 m = R 339 m := fun m h => r28 339 m (by omega) (fun q => by omega)
    have F8 : ∀ m, fi A' T (kn0 + y + 1) m = fi A T (kn0 + y) m := fun m => by unfold fi; rw [hosS]
    have hS := hold R28 nn F1 F2 (fun n x hn hx hne => by
        rw [r28 347 _ (by omega) (fun q => hne (by omega)), r28 348 _ (by omega) (fun q => hne (by omega))]
        exact ⟨rfl, rfl⟩) r28a r28b (fun n hn hne => r28 349 n (by omega) (fun q => by omega)) (by
        rw [if_neg h0, r28 349 n0 (by omega) (fun q => by omega), Int32.add_zero]) (fun m _ => F8 m) (fun m h1 h2 => by omega) (by omega)
    refine ⟨_, A', _, J21, R28, nn, hcl, hrf, ?_, ?_, Nat.le_refl _⟩
    · refine ⟨⟨by rw [show kn0 + (y + 1) = kn0 + y + 1 from rfl, hosS]; exact hos, by rw [up2_s]; rfl, hJ29, by omega, hnv, fun n hn => ?_⟩, hPrF R28 (fun j m h1 h2 => r28 j m (by omega) (fun q => by omega)), by rw [hI2 15 (by decide)]; exact hmt, hn0, by rw [dn_c (F1 338 n0 (by omega) (by omega) (by omega) hn0)]; exact hdn, fun i hi => by rw [hrow1 i hi, F2 _ (by omega)], hrow2, hfb, fun n h1 h2 => by rw [F1 344 n (by omega) (by omega) (by omega) h2]; exact hnb n h1 h2⟩
      rw [show kn0 + (y + 1) = kn0 + y + 1 from rfl, F8 n]
      exact hS n hn
    · exact ⟨hI1, hI2, fun j m h1 h2 => hA1 j m h2 (fun q => by omega), fun j m h1 h2 => hA1 j m h2 (fun q => by omega), fun j m h => hL1 j m (fun q => h q.1), fun m h => hL1 _ _ (fun q => by omega), fun j k h => hJf j k (fun q => h ⟨q.1, Or.inr q.2⟩), fun j m h1 h2 => r28 j m h2 (fun q => by omega), F1, F2⟩
end OP
