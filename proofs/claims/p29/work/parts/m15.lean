/-! part 68.open -/
/-! THE TIE: a node is opened: one value more -/
theorem sm_l (f : Nat → Int32) : ∀ (k i : Nat) (a : Int32), sm f (k + 1) i a = sm f k i a + f (i + k)
  | 0, i, a => rfl
  | k + 1, i, a => by
    rw [sm, sm_l f k (i + 1) (a + f i), sm]
    congr 2
    omega
theorem pgd {B : Nat} (hB : PrAt B) : (B < 318 ∧ kd B = 1) ∧ (B + 1 < 318 ∧ kd (B + 1) = 8) ∧ ln (B + 1) = 6 := by
  obtain ⟨p, hp, rfl⟩ := hB
  have h := pr_all p hp
  exact ⟨⟨by omega, h.2.1⟩, ⟨by omega, h.2.2.1⟩, h.2.2.2.2.2.2.2.1⟩
theorem t_look {I A R : Nat → Nat → Int32} {p B nv nr v d o : Nat} {mt : Int32} (h : TPr I A R p B nv nr) (hJ : JuAt o) (hv : IA v 6) (hv58 : v < 58) (hd : d ≤ nv) (hro : RoW A B v d) : f_X0_look I A o B v (nI d) mt = some (jdI I o (lk I A B v nv nr d mt)) := by
  have hw := h.2.2.1
  have e1 : (I B 0).toNatClampNeg = nv := by rw [hw.2.2.1]; exact t_cl (by have := hw.1; omega)
  have e2 : (I B 1).toNatClampNeg = nr := by rw [hw.2.2.2.1]; exact t_cl (by have := hw.2.1; omega)
  have e3 : (nI d).toNatClampNeg = d := t_cl (by have := hw.1; omega)
  unfold f_X0_look
  rw [gd_t ⟨hJ, tp_at h, hv, hv58, by rw [e3], by rw [e1, e3]; exact hd, by rw [e1, e2]; exact hw, by rw [e3]; exact hro⟩, e1, e2, e3]
  rfl
theorem vsl_at {T : Nat} (hT : TrAt T) : IA (T + 10) 6 := ⟨by have := (tr_o hT).1; show _ < 378; omega, (tr_o hT).2.2.2.2.2.2.2.2.2.2.2.1, (tr_l hT).2.2.2.2.2.2.2.2.2.1⟩
/-- what the opening of a node leaves as it was; kn, nn: the nodes that there were -/
def XF (T kn nn : Nat) (I A : Nat → Nat → Int32) (L : Nat → Nat → Int64) (J R I' A' : Nat → Nat → Int32) (L' : Nat → Nat → Int64) (J' R' : Nat → Nat → Int32) : Prop :=
  (∀ j k, j ≠ T → j ≠ T + 11 → I' j k = I j k) ∧ (∀ k, k ≠ 9 → I' T k = I T k) ∧ (∀ j m, (j < T + 2 ∨ T + 8 < j) → j ≠ T + 10 → A' j m = A j m) ∧ (∀ j m, m < kn → j ≠ T + 10 → A' j m = A j m) ∧ (∀ j m, j ≠ T + 1 → L' j m = L j m) ∧ (∀ m, m < kn → L' (T + 1) m = L (T + 1) m) ∧ (∀ j k, ¬ (j = 318 ∧ (k = 29 ∨ k = 64 ∨ k = 65)) → J' j k = J j k) ∧ (∀ j m, (j < 338 ∨ j = 346 ∨ 349 < j) → j ≠ 364 → R' j m = R j m) ∧ (∀ j m, 338 ≤ j → j ≤ 345 → j ≠ 339 → m < nn → R' j m = R j m) ∧ (∀ m, m < 6 * nn → R' 339 m = R 339 m)
theorem XF_rf {T kn nn : Nat} {I A : Nat → Nat → Int32} {L : Nat → Nat → Int64} {J R : Nat → Nat → Int32} : XF T kn nn I A L J R I A L J R := ⟨fun _ _ _ _ => rfl, fun _ _ => rfl, fun _ _ _ _ => rfl, fun _ _ _ _ => rfl, fun _ _ _ => rfl, fun _ _ => rfl, fun _ _ _ => rfl, fun _ _ _ _ => rfl, fun _ _ _ _ _ _ => rfl, fun _ _ => rfl⟩
theorem XF_tr {T kn nn kn' nn' : Nat} {I A : Nat → Nat → Int32} {L : Nat → Nat → Int64} {J R I1 A1 : Nat → Nat → Int32} {L1 : Nat → Nat → Int64} {J1 R1 I2 A2 : Nat → Nat → Int32} {L2 : Nat → Nat → Int64} {J2 R2 : Nat → Nat → Int32} (a : XF T kn nn I A L J R I1 A1 L1 J1 R1) (b : XF T kn' nn' I1 A1 L1 J1 R1 I2 A2 L2 J2 R2) (hk : kn ≤ kn') (hn : nn ≤ nn') : XF T kn nn I A L J R I2 A2 L2 J2 R2 := by
  obtain ⟨a1, a2, a3, a4, a5, a6, a7, a8, a9, a10⟩ := a
  obtain ⟨b1, b2, b3, b4, b5, b6, b7, b8, b9, b10⟩ := b
  exact ⟨fun j k h1 h2 => (b1 j k h1 h2).trans (a1 j k h1 h2), fun k h => (b2 k h).trans (a2 k h), fun j m h1 h2 => (b3 j m h1 h2).trans (a3 j m h1 h2), fun j m h1 h2 => (b4 j m (by omega) h2).trans (a4 j m h1 h2), fun j m h => (b5 j m h).trans (a5 j m h), fun m h => (b6 m (by omega)).trans (a6 m h), fun j k h => (b7 j k h).trans (a7 j k h), fun j m h1 h2 => (b8 j m h1 h2).trans (a8 j m h1 h2), fun j m h1 h2 h3 h4 => (b9 j m h1 h2 h3 (by omega)).trans (a9 j m h1 h2 h3 h4), fun m h => (b10 m (by omega)).trans (a10 m h)⟩
/-- node n0, of d values, is being opened: y of the values below it are judged -/
def XI (I A : Nat → Nat → Int32) (L : Nat → Nat → Int64) (J R : Nat → Nat → Int32) (T B p nv nr d n0 kn0 y nn : Nat) (mt : Int32) (sv : Prop) (fb : Nat → Option (Nat × Nat)) (tk : Nat → Prop) (nb : Nat) : Prop :=
  TT I A L J R T B nv (kn0 + y) nn sv (fun n => if n = n0 then some (kn0, y) else fb n) (fun a => a ≠ n0 ∧ tk a) (fun n => n = n0) ∧ TPr I A R p B nv nr ∧ I T 15 = mt ∧ n0 < nn ∧ dn R n0 = d ∧ (∀ i, i < d → A (T + 10) i = R 339 (6 * n0 + i)) ∧ (∀ i, d < i → i < 6 → A (T + 10) i = -1) ∧ (∀ n, nn ≤ n → fb n = none) ∧ ∀ n, nb ≤ n → n < nn → R 344 n = 0
theorem dn_c {R R' : Nat → Nat → Int32} {n : Nat} (h : R' 338 n = R 338 n) : dn R' n = dn R n := by unfold dn; rw [h]
theorem wn_c {R R' : Nat → Nat → Int32} {n i : Nat} (h : R' 339 (6 * n + i) = R 339 (6 * n + i)) : wn R' n i = wn R n i := by unfold wn; rw [h]
theorem e8_c {w u : Nat → Nat} {d : Nat} (h : ∀ i, i < d → w i = u i) : e8 w d = e8 u d ∧ e7 w d = e7 u d := by
  have e : ∀ i, dg w d i = dg u d i := fun i => by
    unfold dg
    by_cases hi : i < d
    · rw [if_pos hi, if_pos hi, h i hi]
    · rw [if_neg hi, if_neg hi]
  unfold e8 e7
  rw [e, e, e, e, e, e]
  exact ⟨rfl, rfl⟩
theorem TNs_c {A A' : Nat → Nat → Int32} {L L' : Nat → Nat → Int64} {R R' : Nat → Nat → Int32} {T B nv n c : Nat} (h : TNs A L R T B nv n c) (hnv : nv ≤ 6) (h1 : A' (T + 2) c = A (T + 2) c) (h2 : L' (T + 1) c = L (T + 1) c) (h3 : ∀ i, A' (B + 1) i = A (B + 1) i) (h4 : R' 338 n = R 338 n) (h5 : ∀ i, i < 6 → R' 339 (6 * n + i) = R 339 (6 * n + i)) (h6 : R' 340 n = R 340 n) (h7 : R' 341 n = R 341 n) : TNs A' L' R' T B nv n c := by
  have ed := dn_c h4
  have hd := h.1
  have ew : ∀ i, i < dn R n → wn R' n i = wn R n i := fun i hi => wn_c (h5 i (by omega))
  obtain ⟨a1, a2, a3, a4, a5, a6, a7⟩ := h
  obtain ⟨q1, q2⟩ := e8_c ew
  unfold TNs
  rw [ed]
  refine ⟨a1, by rw [h4]; exact a2, by rw [h1]; exact a3, fun i hi => ?_, fun i h1 h2 => by rw [h5 i h2]; exact a5 i h1 h2, by rw [h2, h7, q1]; exact a6, by rw [h6, q2]; exact a7⟩
  unfold szo
  rw [ew i hi, h5 i (by omega), h3]
  exact a4 i hi
section OP
variable {I A : Nat → Nat → Int32} {L : Nat → Nat → Int64} {J R : Nat → Nat → Int32} {T B p nv nr d n0 kn0 y nn s nb : Nat} {mt : Int32} {sv : Prop} {fb : Nat → Option (Nat × Nat)} {tk : Nat → Prop} {G : Nat → Nat → Nat}
set_option maxHeartbeats 1000000 in
theorem t_step {k30 : (Nat → Nat → Int32) → (Nat → Nat → Int32) → (Nat → Nat → Int64) → Option ((Nat → Nat → Int32) × (Nat → Nat → Int32) × (Nat → Nat → Int64))} {k11 : (Nat → Nat → Int32) → (Nat → Nat → Int32) → Option ((Nat → Nat → Int32) × (Nat → Nat → Int32))} (hT : TrAt T) (hG : G T 14 = B) (hX : XI I A L J R T B p nv nr d n0 kn0 y nn mt sv fb tk nb) (hd : d < nv) (hs : A (B + 1) d = nI s) (hy : y < s) (hs6 : s ≤ 6) (hk : kn0 + y < lT T) (fu fu' : Nat) : ∃ I' A' L' J' R' nn', f_X5_finish_L85 T G k30 (fu + 1) (nI y) (lN (e8 (wn R n0) d)) (nI d) I A L = f_X5_finish_L85 T G k30 fu (nI (y + 1)) (lN (e8 (wn R n0) d)) (nI d) I' A' L' ∧ f_X7_opens_L40 (nI p) (nI n0) mt k11 (fu' + 1) (nI y) (nI d) J R = f_X7_opens_L40 (nI p) (nI n0) mt k11 fu' (nI (y + 1)) (nI d) J' R' ∧ XI I' A' L' J' R' T B p nv nr d n0 kn0 (y + 1) nn' mt sv fb tk nb ∧ XF T (kn0 + y) nn I A L J R I' A' L' J' R' ∧ nn ≤ nn' := by
  obtain ⟨hTT, hPr, hmt, hn0, hdn, hr1, hr2, hfb, hnb⟩ := hX
  have hBat := tp_at hPr
  have hB58 := pr_ge hBat
  have hB := hPr.2.1
  have hp := hPr.1
  have hT58 := (tr_o hT).1
  have hnv := hPr.2.2.1.1
  have hnr := hPr.2.2.1.2.1
  have hlT := (tr_l hT).2.2.2.2.2.2.2.2.2.2.2
  obtain ⟨hos, hkn, hnn, hknl, _, hnd⟩ := hTT
  have hnn1 : nn ≤ kn0 + y := by rw [← hos]; exact os_le _ _ _
  have hs0 := (hnd n0 hn0).1
  have hw6 := ns_6 hs0
  rw [hdn] at hw6
  -- the row
  have hA41 : ∀ i, i < 6 → up2 A (T + 10) d (nI y) (T + 10) i = if i < d then nI (wn R n0 i) else if i = d then nI y else -1 := fun i hi => by
    by_cases h1 : i = d
    · subst h1; rw [up2_s, if_neg (Nat.lt_irrefl i), if_pos rfl]
    · rw [up2_k h1]
      by_cases h2 : i < d
      · rw [if_pos h2, hr1 i h2]; exact (hs0.2.2.2.1 i (by rw [hdn]; exact h2)).1
      · rw [if_neg h2, if_neg h1]; exact hr2 i (by omega) hi
  have hR19 : ∀ i, i < 6 → up2 (nwr R n0 6) 364 d (nI y) 364 i = if i < d then nI (wn R n0 i) else if i = d then nI y else -9 := fun i hi => by
    by_cases h1 : i = d
    · subst h1; rw [up2_s, if_neg (Nat.lt_irrefl i), if_pos rfl]
    · rw [up2_k h1]
      unfold nwr
      rw [if_pos ⟨rfl, hi⟩]
      by_cases h2 : i < d
      · rw [if_pos h2]; exact (hs0.2.2.2.1 i (by rw [hdn]; exact h2)).1
      · rw [if_neg h2, if_neg h1]; exact hs0.2.2.2.2.1 i (by rw [hdn]; omega) hi
  have hro : TRo (up2 A (T + 10) d (nI y)) (up2 (nwr R n0 6) 364 d (nI y)) (T + 10) := fun i hi => by
    rw [hA41 i hi, hR19 i hi]
    by_cases h2 : i < d
    · rw [if_pos h2, if_pos h2]; exact Or.inr ⟨_, hw6 i h2, rfl, rfl⟩
    · rw [if_neg h2, if_neg h2]
      by_cases h1 : i = d
      · rw [if_pos h1, if_pos h1]; exact Or.inr ⟨y, by omega, rfl, rfl⟩
      · rw [if_neg h1, if_neg h1]; exact Or.inl ⟨rfl, rfl⟩
  have hPr2 : TPr I (up2 A (T + 10) d (nI y)) (up2 (nwr R n0 6) 364 d (nI y)) p B nv nr := TPr_of hPr (fun _ _ _ _ => rfl) (fun j k h1 _ => up2_j (by omega)) (fun j k h1 h2 => by rw [up2_j (by omega)]; unfold nwr; rw [if_neg (fun q => by omega)])
  have hsz : ∀ i, szo (up2 A (T + 10) d (nI y)) B i = szo A B i := fun i => by unfold szo; rw [up2_j (by omega)]
  have hRoW : RoW (up2 A (T + 10) d (nI y)) B (T + 10) (d + 1) := by
    refine ⟨fun i hi => ?_, fun i h1 h2 => ?_⟩
    · rw [hA41 i (by omega), hsz]
      by_cases h2 : i < d
      · rw [if_pos h2]
        have := hs0.2.2.2.1 i (by rw [hdn]; exact h2)
        exact vp_in_nI this.2.1 (by omega)
      · rw [if_neg h2, if_pos (by omega), show i = d by omega]
        unfold szo
        rw [hs, t_cl (by omega)]
        exact vp_in_nI hy (by omega)
    · rw [hA41 i h2, if_neg (by omega), if_neg (by omega)]
  obtain ⟨J21, hwh, hJf, hJ0, hJ1⟩ := r_whatIs (J := J) (mt := mt) hPr2 hro (by omega) hRoW (show d + 1 ≤ nv by omega)
  have hlk := t_look (o := T + 11) (mt := mt) hPr2 (ju_at hT) (vsl_at hT) (by omega) (show d + 1 ≤ nv by omega) hRoW
  have hlr := lk_r (I := I) (A := up2 A (T + 10) d (nI y)) (B := B) (v := T + 10) (nv := nv) (nr := nr) (d := d + 1) (mt := mt) hnv hnr (by omega)
  generalize lk I (up2 A (T + 10) d (nI y)) B (T + 10) nv nr (d + 1) mt = w3 at hwh hJ0 hJ1 hlk hlr
  -- the class's step
  have eI9 : jdI I (T + 11) w3 T 9 = nI (kn0 + y) := by unfold jdI; rw [up2_j (by omega), up2_j (by omega), up2_j (by omega)]; exact hkn
  have eI0 : jdI I (T + 11) w3 (T + 11) 0 = w3.1 := by unfold jdI; rw [up2_k (by decide), up2_k (by decide), up2_s]
  have eI1 : jdI I (T + 11) w3 (T + 11) 1 = w3.2.1 := by unfold jdI; rw [up2_k (by decide), up2_s]
  have eI2 : jdI I (T + 11) w3 (T + 11) 2 = w3.2.2 := by unfold jdI; rw [up2_s]
  obtain ⟨A', hadd, hAf, b2, b3, b4, b5, b6, b7, b8⟩ := t_add (A := up2 A (T + 10) d (nI y)) (L := L) (dp := d + 1) (row := lN (e8 (wn R n0) d) ||| ((nI y + 1).toInt64 <<< ((sh (nI d)).toInt64 &&& 63))) hT eI9 hk (by omega) (by
      rw [eI0]
      rcases hlr with ⟨q, _⟩ | ⟨⟨x, _, hx, q⟩, _⟩
      · exact ⟨0, by omega, q⟩
      · exact ⟨x, by omega, q⟩) (by
      rw [eI1]
      rcases hlr with ⟨_, q⟩ | ⟨_, x, hx, q⟩
      · exact Or.inl q
      · exact Or.inr ⟨x, hx, q⟩)
  rw [eI2, e8_s hw6 (by omega) (by omega)] at hadd
  rw [eI0] at b3
  rw [eI1] at b4
  obtain ⟨pg1, pg2, pg3⟩ := pgd hBat
  obtain ⟨g0, g1, g2, g3, g4, g5, g6, g7, g8, g9, g10, g11⟩ := tgd hT
  have hcl : f_X5_finish_L85 T G k30 (fu + 1) (nI y) (lN (e8 (wn R n0) d)) (nI d) I A L = f_X5_finish_L85 T G k30 fu (nI (y + 1)) (lN (e8 (wn R n0) d)) (nI d) (up2 (jdI I (T + 11) w3) T 9 (nI (kn0 + y + 1))) A' (up2 L (T + 1) (kn0 + y) (plc w3.2.2 (lN (e8 (fun i => if i = d then y else wn R n0 i) (d + 1))))) := by
    simp (disch := omega) only [f_X5_finish_L85, hG, gd_t pg1, gd_t pg2, pg3, gd_in, t_cl, hs, t_lt, hy, if_true, hkn, (tr_l hT).1, hk, gd_t g10, (tr_l hT).2.2.2.2.2.2.2.2.2.1, bd, gd_t g11, hmt]
    rw [show nI d + 1 = nI (d + 1) from nI_1 d, hlk, Option.bind_some]
    unfold f_X5_shiftOf
    rw [Option.bind_some, show 3 * (5 - nI d) = sh (nI d) from rfl, e8_s hw6 (by omega) (by omega)]
    rw [hadd, Option.bind_some, nI_1]
  -- the reference's step
  have eS := (hPr.2.2.2.2.2.1 d (by omega)).trans hs
  have hn02 : n0 < 2000 := by omega
  obtain ⟨R28, e28⟩ : ∃ z, z = up2 (up2 (up2 (nwr R n0 6) 364 d (nI y)) 347 (6 * n0 + y) w3.1) 348 (6 * n0 + y) w3.2.1 := ⟨_, rfl⟩
  have r28 : ∀ j m, j ≠ 364 → ¬ ((j = 347 ∨ j = 348) ∧ m = 6 * n0 + y) → R28 j m = R j m := fun j m h1 h2 => by
    rw [e28]
    unfold up2 nwr
    rw [if_neg (fun q => h2 ⟨Or.inr q.1, q.2⟩), if_neg (fun q => h2 ⟨Or.inl q.1, q.2⟩)]
    simp only [h1, false_and, if_false]
  have r28a : R28 347 (6 * n0 + y) = w3.1 := by rw [e28, up2_j (by omega), up2_s]
  have r28b : R28 348 (6 * n0 + y) = w3.2.1 := by rw [e28, up2_s]
  have r28c : ∀ i, i < 6 → R28 364 i = if i < d then nI (wn R n0 i) else if i = d then nI y else -9 := fun i hi => by rw [e28, up2_j (by omega), up2_j (by omega)]; exact hR19 i hi
  have hJ29 : J21 318 29 = nI nn := (hJf 318 29 (fun q => by omega)).trans hnn
  have hrf : f_X7_opens_L40 (nI p) (nI n0) mt k11 (fu' + 1) (nI y) (nI d) J R = if w3.1 = 0 then (Option.bind (f_X7_addNode J21 R28 (nI (d + 1)) (nI n0)) fun (I30, A31) => f_X7_opens_L40 (nI p) (nI n0) mt k11 fu' (nI (y + 1)) (nI d) I30 (up2 A31 349 n0 (A31 349 n0 + 1))) else f_X7_opens_L40 (nI p) (nI n0) mt k11 fu' (nI (y + 1)) (nI d) J21 R28 := by
    simp (disch := omega) only [f_X7_opens_L40, m6, gd_in, t_cl, eS, t_lt, hy, if_true, r_rowOf, Option.bind_some, bd, nI_1, hwh]
    by_cases h0 : w3.1 = 0
    · have e9 : w3.2.1 = -9 := by
        rcases hlr with ⟨_, q⟩ | ⟨⟨x, x1, x2, q⟩, _⟩
        · exact q
        · rw [h0] at q; exact absurd q.symm (nI_ne0 (by omega) (by omega))
      rw [e9] at e28
      rw [if_pos h0, if_pos h0, if_pos h0, e28]
    · rw [if_neg h0, if_neg h0, if_neg h0, hJ1 h0, e28]
  -- the class's memory
  have hA1 : ∀ j m, j ≠ T + 10 → ¬ (T + 2 ≤ j ∧ j ≤ T + 8 ∧ m = kn0 + y) → A' j m = A j m := fun j m h1 h2 => (hAf j m h2).trans (up2_j h1)
  have hA10 : ∀ i, A' (T + 10) i = up2 A (T + 10) d (nI y) (T + 10) i := fun i => hAf _ _ (fun q => by omega)
  have hL1 : ∀ j m, ¬ (j = T + 1 ∧ m = kn0 + y) → up2 L (T + 1) (kn0 + y) (plc w3.2.2 (lN (e8 (fun i => if i = d then y else wn R n0 i) (d + 1)))) j m = L j m := fun j m h => by unfold up2; rw [if_neg h]
  have hI1 : ∀ j k, j ≠ T → j ≠ T + 11 → up2 (jdI I (T + 11) w3) T 9 (nI (kn0 + y + 1)) j k = I j k := fun j k h1 h2 => by unfold jdI; rw [up2_j h1, up2_j h2, up2_j h2, up2_j h2]
  have hI2 : ∀ k, k ≠ 9 → up2 (jdI I (T + 11) w3) T 9 (nI (kn0 + y + 1)) T k = I T k := fun k h => by unfold jdI; rw [up2_k h, up2_j (by omega), up2_j (by omega), up2_j (by omega)]
  have hosA : os A' T (kn0 + y) = os A T (kn0 + y) := os_c (fun c hc => hA1 _ _ (by omega) (fun q => by omega))
  have hosS := os_s A' T (kn0 + y)
  rw [hosA, b3] at hosS
  -- the old nodes
  have hold : ∀ (R' : Nat → Nat → Int32) (nn' : Nat), (∀ j m, 338 ≤ j → j ≤ 345 → j ≠ 339 → m < nn → R' j m = R j m) → (∀ m, m < 6 * nn → R' 339 m = R 339 m) → (∀ n x, n < nn → x < 6 → ¬ (n = n0 ∧ x = y) → R' 347 (6 * n + x) = R 347 (6 * n + x) ∧ R' 348 (6 * n + x) = R 348 (6 * n + x)) → R' 347 (6 * n0 + y) = w3.1 → R' 348 (6 * n0 + y) = w3.2.1 → (∀ n, n < nn → n ≠ n0 → R' 349 n = R 349 n) → R' 349 n0 = R 349 n0 + (if w3.1 = 0 then 1 else 0) → (∀ m, m < nn → fi A' T (kn0 + y + 1) m = fi A T (kn0 + y) m) → (∀ m, nn ≤ m → m < nn' → R' 342 m = nI n0 ∧ fi A' T (kn0 + y + 1) m = kn0 + y) → nn' ≤ nn + 1 → ∀ n, n < nn → TNs A' (up2 L (T + 1) (kn0 + y) (plc w3.2.2 (lN (e8 (fun i => if i = d then y else wn R n0 i) (d + 1))))) R' T B nv n (fi A T (kn0 + y) n) ∧ (¬ n = n0 → TNd A' R' T sv n (fi A T (kn0 + y) n)) ∧ TNr A' R' T (fun a => a ≠ n0 ∧ tk a) n (fi A T (kn0 + y) n) ∧ TNc A' R' T (kn0 + y + 1) nn' (fun n => if n = n0 then some (kn0, y + 1) else fb n) n (fi A T (kn0 + y) n) := by
    intro R' nn' F1 F2 F3 F4 F5 F6 F7 F8 F9 F10 n hn
    obtain ⟨a, b, c, e⟩ := hnd n hn
    have hc := (fi_mem (A := A) (T := T) (kn := kn0 + y) (n := n) (by rw [hos]; exact hn)).1
    have hAc : ∀ j, j ≠ T + 10 → A' j (fi A T (kn0 + y) n) = A j (fi A T (kn0 + y) n) := fun j h => hA1 j _ h (fun q => by omega)
    refine ⟨TNs_c a hnv (hAc _ (by omega)) (hL1 _ _ (fun q => by omega)) (fun i => hA1 _ _ (by omega) (fun q => by omega)) (F1 338 n (by omega) (by omega) (by omega) hn) (fun i hi => F2 _ (by omega)) (F1 340 n (by omega) (by omega) (by omega) hn) (F1 341 n (by omega) (by omega) (by omega) hn), fun hne => ?_, ?_, ?_⟩
    · have b := b hne
      unfold TNd stg at b ⊢
      rw [hAc _ (by omega), hAc _ (by omega), F1 343 n (by omega) (by omega) (by omega) hn, F1 344 n (by omega) (by omega) (by omega) hn, F1 345 n (by omega) (by omega) (by omega) hn]
      exact b
    · unfold TNr at c ⊢
      rw [hAc _ (by omega), F1 342 n (by omega) (by omega) (by omega) hn]
      exact c
    · unfold TNc at e ⊢
      by_cases hne : n = n0
      · simp only [if_pos hne] at e ⊢
        rcases e with ⟨q, _⟩ | ⟨f, k, e1, e2, e3, e4, e5, e6, e7⟩
        · cases q
        · cases e1
          refine Or.inr ⟨kn0, y + 1, rfl, by rw [hAc _ (by omega)]; exact e2, by omega, by omega, fun x hx => ?_, ?_, fun m hm => ?_⟩
          · rw [hne]
            by_cases hxy : x = y
            · rw [hxy, b3, b4, F4, F5]; exact ⟨rfl, rfl⟩
            · rw [hA1 _ _ (by omega) (fun q => by omega), hA1 _ _ (by omega) (fun q => by omega), (F3 n0 x (by omega) (by omega) (fun q => hxy q.2)).1, (F3 n0 x (by omega) (by omega) (fun q => hxy q.2)).2]
              have := e5 x (by omega)
              rw [hne] at this
              exact this
          · rw [hne, F7, sm_l, ← hne, e6, Nat.zero_add, b3]
            congr 1
            exact sm_c _ _ _ (fun i _ hi => by rw [hA1 _ _ (by omega) (fun q => by omega)])
          · rcases Nat.lt_or_ge m nn with hm1 | hm1
            · have hcm := (fi_mem (A := A) (T := T) (kn := kn0 + y) (n := m) (by rw [hos]; exact hm1)).1
              rw [F8 m hm1, F1 342 m (by omega) (by omega) (by omega) hm1, e7 m hm1]
              constructor <;> (intro q; omega)
            · obtain ⟨q1, q2⟩ := F9 m hm1 hm
              rw [q1, q2, hne]
              exact ⟨fun _ => by omega, fun _ => rfl⟩
      · simp only [if_neg hne] at e ⊢
        rcases e with ⟨q, q1, q2, q3⟩ | ⟨f, k, e1, e2, e3, e4, e5, e6, e7⟩
        · refine Or.inl ⟨q, by rw [hAc _ (by omega)]; exact q1, by rw [F6 n hn hne]; exact q2, fun m hm => ?_⟩
          rcases Nat.lt_or_ge m nn with hm1 | hm1
          · rw [F1 342 m (by omega) (by omega) (by omega) hm1]; exact q3 m hm1
          · rw [(F9 m hm1 hm).1, ne_eq, t_eq (by omega) (by omega)]; omega
        · refine Or.inr ⟨f, k, e1, by rw [hAc _ (by omega)]; exact e2, e3, by omega, fun x hx => ?_, ?_, fun m hm => ?_⟩
          · rw [hA1 _ _ (by omega) (fun q => by omega), hA1 _ _ (by omega) (fun q => by omega), (F3 n x hn (by omega) (fun q => hne q.1)).1, (F3 n x hn (by omega) (fun q => hne q.1)).2]
            exact e5 x hx
          · rw [F6 n hn hne, e6]
            exact sm_c _ _ _ (fun i _ hi => by rw [hA1 _ _ (by omega) (fun q => by omega)])
          · rcases Nat.lt_or_ge m nn with hm1 | hm1
            · rw [F8 m hm1, F1 342 m (by omega) (by omega) (by omega) hm1]; exact e7 m hm1
            · obtain ⟨q1, q2⟩ := F9 m hm1 hm
              rw [q1, q2, t_eq (by omega) (by omega)]
              constructor <;> (intro q; omega)
  have hPrF : ∀ R' : Nat → Nat → Int32, (∀ j m, 319 ≤ j → j ≤ 328 → R' j m = R j m) → TPr (up2 (jdI I (T + 11) w3) T 9 (nI (kn0 + y + 1))) A' R' p B nv nr := fun R' h => TPr_of hPr (fun j k h1 h2 => hI1 j k (by omega) (by omega)) (fun j k h1 h2 => hA1 j k (by omega) (fun q => by omega)) h
  have hrow1 : ∀ i, i < d → A' (T + 10) i = R 339 (6 * n0 + i) := fun i hi => by rw [hA10, up2_k (by omega)]; exact hr1 i hi
  have hrow2 : ∀ i, d < i → i < 6 → A' (T + 10) i = -1 := fun i h1 h2 => by rw [hA10, up2_k (by omega)]; exact hr2 i h1 h2
  by_cases h0 : w3.1 = 0
  · -- it is open
    rw [if_pos h0] at hosS hrf
    obtain ⟨R31, hra, ra0, ra1, ra2, ra3, ra4, ra5, ra6, ra7, ra8, ra9⟩ := r_add (J := J21) (R := R28) (nn := nn) (d := d + 1) (w := fun i => if i = d then y else wn R n0 i) (a2 := nI n0) hJ29 (by omega) (by omega) (fun i hi => by
      rw [r28c i (by omega)]
      by_cases h2 : i < d
      · rw [if_pos h2]; simp only [if_neg (show ¬ i = d by omega)]
      · rw [if_neg h2, if_pos (show i = d by omega)]; simp only [if_pos (show i = d by omega)])
    rw [hra, Option.bind_some] at hrf
    dsimp only at hrf
    obtain ⟨R', eR'⟩ : ∃ z, z = up2 R31 349 n0 (R31 349 n0 + 1) := ⟨_, rfl⟩
    rw [← eR'] at hrf
    have q31 : ∀ j m, ¬ ((j = 338 ∨ j = 340 ∨ j = 341 ∨ j = 342 ∨ j = 343 ∨ j = 344 ∨ j = 345 ∨ j = 349) ∧ m = nn) → ¬ (j = 339 ∧ 6 * nn ≤ m ∧ m < 6 * nn + 6) → ¬ (j = 349 ∧ m = n0) → R' j m = R28 j m := fun j m h1 h2 h3 => by rw [eR']; unfold up2; rw [if_neg h3]; exact ra0 j m h1 h2
    have qn : ∀ j, j ≠ 349 → R' j nn = R31 j nn := fun j h => by rw [eR', up2_j h]
    have F1 : ∀ j m, 338 ≤ j → j ≤ 345 → j ≠ 339 → m < nn → R' j m = R j m := fun j m h1 h2 h3 h4 => (q31 j m (fun q => by omega) (fun q => by omega) (fun q => by omega)).trans (r28 j m (by omega) (fun q => by omega))
    have F2 : ∀ m, m < 6 * nn → R' 339 m = R 339 m := fun m h => (q31 339 m (fun q => by omega) (fun q => by omega) (fun q => by omega)).trans (r28 339 m (by omega) (fun q => by omega))
    have F3a : ∀ j m, (j = 347 ∨ j = 348) → R' j m = R28 j m := fun j m h => q31 j m (fun q => by omega) (fun q => by omega) (fun q => by omega)
    have hlen : (os A' T (kn0 + y + 1)).length = nn + 1 := by rw [hosS, List.length_append, hos]; rfl
    have F8 : ∀ m, m < nn → fi A' T (kn0 + y + 1) m = fi A T (kn0 + y) m := fun m hm => by
      unfold fi
      rw [hosS, List.getD_eq_getElem?_getD, List.getElem?_append_left (by rw [hos]; exact hm), ← List.getD_eq_getElem?_getD]
    have F9 : fi A' T (kn0 + y + 1) nn = kn0 + y := by
      unfold fi
      rw [hosS, List.getD_eq_getElem?_getD, List.getElem?_append_right (by rw [hos]; exact Nat.le_refl _), hos, Nat.sub_self]
      rfl
    have hS := hold R' (nn + 1) F1 F2 (fun n x hn hx hne => by
        rw [F3a 347 _ (Or.inl rfl), F3a 348 _ (Or.inr rfl), r28 347 _ (by omega) (fun q => hne (by omega)), r28 348 _ (by omega) (fun q => hne (by omega))]
        exact ⟨rfl, rfl⟩) (by rw [F3a 347 _ (Or.inl rfl)]; exact r28a) (by rw [F3a 348 _ (Or.inr rfl)]; exact r28b) (fun n hn hne => (q31 349 n (fun q => by omega) (fun q => by omega) (fun q => hne q.2)).trans (r28 349 n (by omega) (fun q => by omega))) (by
        rw [eR', up2_s, if_pos h0, ra0 349 n0 (fun q => by omega) (fun q => by omega), r28 349 n0 (by omega) (fun q => by omega)]) F8 (fun m h1 h2 => by
        obtain rfl : m = nn := by omega
        exact ⟨(qn 342 (by decide)).trans ra2, F9⟩) (Nat.le_refl _)
    refine ⟨_, A', _, _, R', nn + 1, hcl, hrf, ?_, ?_, by omega⟩
    · refine ⟨⟨hlen, by rw [up2_s]; rfl, by rw [up2_s], by omega, hnv, fun n hn => ?_⟩, hPrF R' (fun j m h1 h2 => (q31 j m (fun q => by omega) (fun q => by omega) (fun q => by omega)).trans (r28 j m (by omega) (fun q => by omega))), by rw [hI2 15 (by decide)]; exact hmt, by omega, by rw [dn_c (F1 338 n0 (by omega) (by omega) (by omega) hn0)]; exact hdn, fun i hi => by rw [hrow1 i hi, F2 _ (by omega)], hrow2, fun n hn => hfb n (by omega), fun n h1 h2 => by
        rcases Nat.lt_or_ge n nn with h3 | h3
        · rw [F1 344 n (by omega) (by omega) (by omega) h3]; exact hnb n h1 h3
        · rw [show n = nn by omega, qn 344 (by decide)]; exact ra5⟩
      rcases Nat.lt_or_ge n nn with hn1 | hn1
      · rw [show kn0 + (y + 1) = kn0 + y + 1 from rfl, F8 n hn1]
        exact hS n hn1
      · obtain rfl : n = nn := by omega
        rw [show kn0 + (y + 1) = kn0 + y + 1 from rfl, F9]
        have hdn' : dn R' n = d + 1 := by unfold dn; rw [qn 338 (by decide), ra1, t_cl (by omega)]
        have hrow' : ∀ i, i < 6 → R' 339 (6 * n + i) = if i < d + 1 then nI (if i = d then y else wn R n0 i) else -9 := fun i hi => by rw [eR', up2_j (by omega)]; exact ra9 i hi
        have hwn' : ∀ i, i < d + 1 → wn R' n i = if i = d then y else wn R n0 i := fun i hi => by
          unfold wn
          rw [hrow' i (by omega), if_pos hi]
          apply t_cl
          by_cases h1 : i = d
          · rw [if_pos h1]; omega
          · rw [if_neg h1]; have := hw6 i (by omega); omega
        obtain ⟨z1, z2⟩ := e8_c (w := wn R' n) (u := fun i => if i = d then y else wn R n0 i) (d := d + 1) hwn'
        have hszA : ∀ i, szo A' B i = szo A B i := fun i => by unfold szo; rw [hA1 _ _ (by omega) (fun q => by omega)]
        refine ⟨⟨by rw [hdn']; omega, by rw [hdn', qn 338 (by decide)]; exact ra1, by rw [hdn']; exact b2, fun i hi => ?_, fun i h1 h2 => ?_, ?_, ?_⟩, fun hne => ?_, ?_, ?_⟩
        · rw [hdn'] at hi
          rw [hwn' i hi, hrow' i (by omega), if_pos hi, hszA]
          refine ⟨rfl, ?_⟩
          by_cases h1 : i = d
          · rw [if_pos h1, h1]; unfold szo; rw [hs, t_cl (by omega)]; exact ⟨hy, hs6⟩
          · rw [if_neg h1]; exact (hs0.2.2.2.1 i (by rw [hdn]; omega)).2
        · rw [hdn'] at h1
          rw [hrow' i h2, if_neg (by omega)]
        · rw [up2_s, hdn', z1, qn 341 (by decide), ra3, hJ0 h0]
        · rw [hdn', z2, qn 340 (by decide)]; exact ra8
        · unfold TNd stg
          rw [qn 343 (by decide), qn 344 (by decide), qn 345 (by decide), ra4, ra5, ra6, b5, if_pos rfl, if_pos rfl, if_pos rfl]
          exact ⟨rfl, Or.inl rfl, Or.inl rfl, fun q => absurd q z01, fun _ => ⟨Or.inl rfl, fun q => absurd q z01⟩⟩
        · exact Or.inr ⟨n0, hn0, (qn 342 (by decide)).trans ra2, Or.inr ⟨fun q => q.1 rfl, b8⟩⟩
        · refine Or.inl ⟨?_, b7, ?_, fun m hm => ?_⟩
          · simp only [if_neg (show ¬ n = n0 by omega)]; exact hfb n (Nat.le_refl n)
          · rw [eR', up2_k (by omega)]; exact ra7
          · rcases Nat.lt_or_ge m n with hm1 | hm1
            · rw [F1 342 m (by omega) (by omega) (by omega) hm1]
              rcases (hnd m hm1).2.2.1 with ⟨q, _⟩ | ⟨x, hx, q, _⟩
              · rw [q]; exact fun r => t_m9 (n := n) (by omega) r.symm
              · rw [q, ne_eq, t_eq (by omega) (by omega)]; omega
            · obtain rfl : m = n := by omega
              rw [qn 342 (by decide), ra2, ne_eq, t_eq (by omega) (by omega)]; omega
    · refine ⟨hI1, hI2, fun j m h1 h2 => hA1 j m h2 (fun q => by omega), fun j m h1 h2 => hA1 j m h2 (fun q => by omega), fun j m h => hL1 j m (fun q => h q.1), fun m h => hL1 _ _ (fun q => by omega), fun j k h => ?_, fun j m h1 h2 => (q31 j m (fun q => by omega) (fun q => by omega) (fun q => by omega)).trans (r28 j m h2 (fun q => by omega)), fun j m h1 h2 h3 h4 => F1 j m h1 h2 h3 h4, F2⟩
      have hk29 : ¬ (j = 318 ∧ k = 29) := fun q => h ⟨q.1, Or.inl q.2⟩
      unfold up2
      rw [if_neg hk29]
      exact hJf j k (fun q => h ⟨q.1, Or.inr q.2⟩)
  · -- it is not
    rw [if_neg h0, List.append_nil] at hosS
    rw [if_neg h0] at hrf
    have F1 : ∀ j m, 338 ≤ j → j ≤ 345 → j ≠ 339 → m < nn → R28 j m = R j m := fun j m h1 h2 h3 h4 => r28 j m (by omega) (fun q => by omega)
    have F2 : ∀ m, m < 6 * nn → R28 339 m = R 339 m := fun m h => r28 339 m (by omega) (fun q => by omega)
    have F8 : ∀ m, fi A' T (kn0 + y + 1) m = fi A T (kn0 + y) m := fun m => by unfold fi; rw [hosS]
    have hS := hold R28 nn F1 F2 (fun n x hn hx hne => by
        rw [r28 347 _ (by omega) (fun q => hne (by omega)), r28 348 _ (by omega) (fun q => hne (by omega))]
        exact ⟨rfl, rfl⟩) r28a r28b (fun n hn hne => r28 349 n (by omega) (fun q => by omega)) (by
        rw [if_neg h0, r28 349 n0 (by omega) (fun q => by omega), Int32.add_zero]) (fun m _ => F8 m) (fun m h1 h2 => by omega) (by omega)
    refine ⟨_, A', _, J21, R28, nn, hcl, hrf, ?_, ?_, Nat.le_refl _⟩
    · refine ⟨⟨by rw [show kn0 + (y + 1) = kn0 + y + 1 from rfl, hosS]; exact hos, by rw [up2_s]; rfl, hJ29, by omega, hnv, fun n hn => ?_⟩, hPrF R28 (fun j m h1 h2 => r28 j m (by omega) (fun q => by omega)), by rw [hI2 15 (by decide)]; exact hmt, hn0, by rw [dn_c (F1 338 n0 (by omega) (by omega) (by omega) hn0)]; exact hdn, fun i hi => by rw [hrow1 i hi, F2 _ (by omega)], hrow2, hfb, fun n h1 h2 => by rw [F1 344 n (by omega) (by omega) (by omega) h2]; exact hnb n h1 h2⟩
      rw [show kn0 + (y + 1) = kn0 + y + 1 from rfl, F8 n]
      exact hS n hn
    · exact ⟨hI1, hI2, fun j m h1 h2 => hA1 j m h2 (fun q => by omega), fun j m h1 h2 => hA1 j m h2 (fun q => by omega), fun j m h => hL1 j m (fun q => h q.1), fun m h => hL1 _ _ (fun q => by omega), fun j k h => hJf j k (fun q => h ⟨q.1, Or.inr q.2⟩), fun j m h1 h2 => r28 j m h2 (fun q => by omega), F1, F2⟩
end OP

/-! part 69.fin -/
/-! THE TIE: a node is opened -/
theorem t_fill {A : Nat → Nat → Int32} {j n : Nat} {w : Int32} (hj : IA j n) (h3 : j < 318) (hn : n < 2147483648) : f_J7_fill_53178 A j w = some (fil A j n w) := by
  unfold f_J7_fill_53178
  rw [gd_t ⟨h3, hj.2.1, by rw [hj.2.2]; exact hn⟩, hj.2.2]
theorem t_copy {A : Nat → Nat → Int32} {L : Nat → Nat → Int64} {T c v n f dd : Nat} (hT : TrAt T) (hc : c < lT T) (hv : IA v n) (hf : f + dd ≤ n) (hn : n ≤ 12) (h2 : v ≠ T + 2) (h3 : v < 318) (hd : A (T + 2) c = nI dd) : f_X5_copyValues A L T (nI c) v (nI f) = some (cpy A v f dd (L (T + 1) c)) := by
  have hl := (tr_l hT).2.2.2.2.2.2.2.2.2.2.2
  have e1 : (nI c).toNatClampNeg = c := t_cl (by omega)
  have e2 : (nI f).toNatClampNeg = f := t_cl (by omega)
  have e3 : (A (T + 2) c).toNatClampNeg = dd := by rw [hd]; exact t_cl (by omega)
  unfold f_X5_copyValues
  rw [gd_t ⟨hT, by rw [e1]; exact hc, by rw [e1], by rw [hv.2.2]; exact hv, by rw [e1, e2, e3, hv.2.2]; exact hf, by rw [hv.2.2]; exact hn, h2, h3, by rw [e2], by rw [e1, e3]; exact hd⟩, e1, e2, e3]
theorem t_full {I A : Nat → Nat → Int32} {G : Nat → Nat → Nat} {T B c d nv : Nat} (hT : TrAt T) (hG : G T 14 = B) (hB : PrAt B) (hc : c < lT T) (hd : A (T + 2) c = nI d) (hn : I B 0 = nI nv) (hd6 : d ≤ 6) (hnv : nv ≤ 6) : f_X5_isFull I G A T (nI c) = some (if d < nv then 0 else 1) := by
  obtain ⟨g0, g1, g2, g3, g4, g5, g6, g7, g8, g9, g10, g11⟩ := tgd hT
  obtain ⟨i1, i2, i3, i4, i5, i6, i7, i8⟩ := ti hT hc
  have hl := (tr_l hT).2.2.2.2.2.2.2.2.2.2.2
  unfold f_X5_isFull
  rw [hG, gd_t g0, gd_t g2, gd_t i2, gd_t (pgd hB).1]
  simp (disch := omega) only [t_cl, hd, hn, t_lt]
  split <;> rfl
section FI
variable {T B p nv nr d n0 kn0 s nb : Nat} {mt : Int32} {sv : Prop} {fb : Nat → Option (Nat × Nat)} {tk : Nat → Prop} {G : Nat → Nat → Nat}
theorem t_exp {k30 : (Nat → Nat → Int32) → (Nat → Nat → Int32) → (Nat → Nat → Int64) → Option ((Nat → Nat → Int32) × (Nat → Nat → Int32) × (Nat → Nat → Int64))} {k11 : (Nat → Nat → Int32) → (Nat → Nat → Int32) → Option ((Nat → Nat → Int32) × (Nat → Nat → Int32))} (hT : TrAt T) (hG : G T 14 = B) (hd : d < nv) (hs6 : s ≤ 6) (hk : kn0 + s ≤ lT T) : ∀ (k y fu fu' nn : Nat) (I A : Nat → Nat → Int32) (L : Nat → Nat → Int64) (J R : Nat → Nat → Int32) (row : Int64), y + k = s → k < fu → k < fu' → XI I A L J R T B p nv nr d n0 kn0 y nn mt sv fb tk nb → A (B + 1) d = nI s → row = lN (e8 (wn R n0) d) → ∃ I' A' L' J' R' nn', f_X5_finish_L85 T G k30 fu (nI y) row (nI d) I A L = k30 I' A' L' ∧ f_X7_opens_L40 (nI p) (nI n0) mt k11 fu' (nI y) (nI d) J R = k11 J' R' ∧ XI I' A' L' J' R' T B p nv nr d n0 kn0 s nn' mt sv fb tk nb ∧ XF T (kn0 + y) nn I A L J R I' A' L' J' R' ∧ nn ≤ nn' := by
  intro k
  induction k with
  | zero =>
    intro y fu fu' nn I A L J R row hy hf hf' hX hs _
    obtain ⟨fu, rfl⟩ : ∃ z, fu = z + 1 := ⟨fu - 1, by omega⟩
    obtain ⟨fu', rfl⟩ : ∃ z, fu' = z + 1 := ⟨fu' - 1, by omega⟩
    obtain rfl : y = s := by omega
    have hPr := hX.2.1
    have hp := hPr.1
    have hnv := hPr.2.2.1.1
    obtain ⟨pg1, pg2, pg3⟩ := pgd (tp_at hPr)
    have eS := (hPr.2.2.2.2.2.1 d (by omega)).trans hs
    refine ⟨I, A, L, J, R, nn, ?_, ?_, hX, XF_rf, Nat.le_refl _⟩
    · simp (disch := omega) only [f_X5_finish_L85, hG, gd_t pg1, gd_t pg2, pg3, gd_in, t_cl, hs, t_lt, Nat.lt_irrefl, if_false]
    · simp (disch := omega) only [f_X7_opens_L40, m6, gd_in, t_cl, eS, t_lt, Nat.lt_irrefl, if_false]
  | succ k ih =>
    intro y fu fu' nn I A L J R row hy hf hf' hX hs hrow
    obtain ⟨fu, rfl⟩ : ∃ z, fu = z + 1 := ⟨fu - 1, by omega⟩
    obtain ⟨fu', rfl⟩ : ∃ z, fu' = z + 1 := ⟨fu' - 1, by omega⟩
    have hnv := hX.2.1.2.2.1.1
    have hB58 := pr_ge (tp_at hX.2.1)
    have hT58 := (tr_o hT).1
    have hn0 := hX.2.2.2.1
    obtain ⟨I1, A1, L1, J1, R1, nn1, h1, h2, h3, h4, h5⟩ := t_step (k30 := k30) (k11 := k11) hT hG hX hd hs (by omega) hs6 (by omega) fu fu'
    have hw : e8 (wn R1 n0) d = e8 (wn R n0) d := (e8_c (fun i hi => wn_c (h4.2.2.2.2.2.2.2.2.2 _ (by omega)))).1
    obtain ⟨I2, A2, L2, J2, R2, nn2, q1, q2, q3, q4, q5⟩ := ih (y + 1) fu fu' nn1 I1 A1 L1 J1 R1 row (by omega) (by omega) (by omega) h3 (by rw [h4.2.2.1 _ _ (by omega) (by omega)]; exact hs) (by rw [hw]; exact hrow)
    subst hrow
    exact ⟨I2, A2, L2, J2, R2, nn2, h1.trans q1, h2.trans q2, q3, XF_tr h4 q4 (by omega) h5, Nat.le_trans h5 q5⟩
end FI
/-- what an opening leaves as it was -/
def XO (T kn nn n0 c0 : Nat) (I A : Nat → Nat → Int32) (L : Nat → Nat → Int64) (J R I' A' : Nat → Nat → Int32) (L' : Nat → Nat → Int64) (J' R' : Nat → Nat → Int32) : Prop :=
  (∀ j k, j ≠ T → j ≠ T + 11 → I' j k = I j k) ∧ (∀ k, k ≠ 9 → k ≠ 10 → I' T k = I T k) ∧ (∀ j m, (j < T + 2 ∨ T + 8 < j) → j ≠ T + 10 → A' j m = A j m) ∧ (∀ j m, m < kn → j ≠ T + 10 → ¬ (m = c0 ∧ T + 5 ≤ j ∧ j ≤ T + 7) → A' j m = A j m) ∧ (∀ j m, j ≠ T + 1 → L' j m = L j m) ∧ (∀ m, m < kn → L' (T + 1) m = L (T + 1) m) ∧ (∀ j k, ¬ (j = 318 ∧ (k = 29 ∨ k = 30 ∨ k = 64 ∨ k = 65)) → J' j k = J j k) ∧ (∀ j m, (j < 338 ∨ j = 346 ∨ 349 < j) → j ≠ 364 → R' j m = R j m) ∧ (∀ j m, 338 ≤ j → j ≤ 345 → j ≠ 339 → m < nn → ¬ (j = 344 ∧ m = n0) → R' j m = R j m) ∧ (∀ m, m < 6 * nn → R' 339 m = R 339 m)
section FN
variable {I A : Nat → Nat → Int32} {L : Nat → Nat → Int64} {J R : Nat → Nat → Int32} {T B p nv nr n0 kn nn h dd : Nat} {mt : Int32} {sv : Prop} {fb : Nat → Option (Nat × Nat)} {tk : Nat → Prop} {G : Nat → Nat → Nat}
set_option maxHeartbeats 1000000 in
theorem t_open (hT : TrAt T) (hG : G T 14 = B) (hPr : TPr I A R p B nv nr) (hmt : I T 15 = mt) (hX : TT I A L J R T B nv kn nn sv fb tk (fun n => n = n0)) (hn0 : n0 < nn) (hf0 : fb n0 = none) (hfb : ∀ n, nn ≤ n → fb n = none) (hkn : kn + 6 ≤ lT T) (hh : h < 5) (hd1 : I T 10 = nI dd) (hd2 : J 318 30 = nI dd) : ∃ I' A' L' J' R' kn' nn', f_X5_finish I G A L T (nI (fi A T kn n0)) (nI h) = some (I', A', L') ∧ f_X7_opens J R (nI p) (nI n0) mt = some (J', R') ∧ TT I' A' L' J' R' T B nv kn' nn' sv (fun n => if n = n0 then (if dn R n0 < nv then some (kn, szo A B (dn R n0)) else none) else fb n) (fun a => a ≠ n0 ∧ tk a) (fun n => n = n0) ∧ A' (T + 5) (fi A T kn n0) = 2 ∧ A' (T + 6) (fi A T kn n0) = nI h ∧ R' 344 n0 = 1 ∧ I' T 10 = nI (dd + 1) ∧ J' 318 30 = nI (dd + 1) ∧ kn ≤ kn' ∧ kn' ≤ kn + 6 ∧ nn ≤ nn' ∧ (∀ m, m < nn → fi A' T kn' m = fi A T kn m) ∧ XO T kn nn n0 (fi A T kn n0) I A L J R I' A' L' J' R' ∧ TPr I' A' R' p B nv nr ∧ ∀ n, nn ≤ n → n < nn' → R' 344 n = 0 := by
  have hBat := tp_at hPr
  have hB58 := pr_ge hBat
  have hB := hPr.2.1
  have hp := hPr.1
  have hT58 := (tr_o hT).1
  have hnv := hPr.2.2.1.1
  have hlT := (tr_l hT).2.2.2.2.2.2.2.2.2.2.2
  obtain ⟨hos, hk9, hJ29, hknl, _, hnd⟩ := hX
  have hnn1 : nn ≤ kn := by rw [← hos]; exact os_le _ _ _
  have hc0 := (fi_mem (A := A) (T := T) (kn := kn) (n := n0) (by rw [hos]; exact hn0)).1
  have hs0 := (hnd n0 hn0).1
  have hw6 := ns_6 hs0
  have hd6 : dn R n0 ≤ 6 := by have := hs0.1; omega
  unfold TNs at hs0
  generalize hc : fi A T kn n0 = c0 at *
  generalize hdd : dn R n0 = d at *
  obtain ⟨g0, g1, g2, g3, g4, g5, g6, g7, g8, g9, g10, g11⟩ := tgd hT
  obtain ⟨i1, i2, i3, i4, i5, i6, i7, i8⟩ := ti hT (show c0 < lT T by omega)
  obtain ⟨A7, e7⟩ : ∃ z, z = up2 (up2 A (T + 5) c0 2) (T + 6) c0 (nI h) := ⟨_, rfl⟩
  have a7 : ∀ j m, ¬ (m = c0 ∧ (j = T + 5 ∨ j = T + 6)) → A7 j m = A j m := fun j m q => by
    rw [e7]; unfold up2
    rw [if_neg (fun r => q ⟨r.2, Or.inr r.1⟩), if_neg (fun r => q ⟨r.2, Or.inl r.1⟩)]
  have a75 : A7 (T + 5) c0 = 2 := by rw [e7, up2_j (by omega), up2_s]
  have a76 : A7 (T + 6) c0 = nI h := by rw [e7, up2_s]
  have a72 : A7 (T + 2) c0 = nI d := by rw [a7 _ _ (fun q => by omega)]; exact hs0.2.2.1
  have hfull := t_full (I := up2 I T 10 (nI (dd + 1))) (A := A7) hT hG hBat (show c0 < lT T by omega) a72 (by rw [up2_j (by omega)]; exact hPr.2.2.1.2.2.1) hd6 hnv
  have hnb : vp_nar .byte (nI h).toInt8.toInt32 = nI h := nb_nI h (by omega)
  -- the reference's beginning
  have hR2 : ∀ j m, ¬ (j = 344 ∧ m = n0) → up2 R 344 n0 1 j m = R j m := fun j m q => by unfold up2; rw [if_neg q]
  have hR338 : up2 R 344 n0 1 338 n0 = nI d := by rw [hR2 _ _ (fun q => by omega)]; exact hs0.2.1
  have hR319 : up2 R 344 n0 1 319 p = nI nv := by rw [hR2 _ _ (fun q => by omega)]; exact hPr.2.2.2.1
  have hno : ∀ m, m < nn → R 342 m ≠ nI n0 := by
    rcases (hnd n0 hn0).2.2.2 with ⟨_, _, _, q⟩ | ⟨f, k, q, _⟩
    · exact q
    · rw [hf0] at q; cases q
  have h349 : R 349 n0 = 0 := by
    rcases (hnd n0 hn0).2.2.2 with ⟨_, _, q, _⟩ | ⟨f, k, q, _⟩
    · exact q
    · rw [hf0] at q; cases q
  -- what holds of the nodes so far
  have hnodes : ∀ (I8 A2 J3 : Nat → Nat → Int32) (fb2 : Nat → Option (Nat × Nat)), (∀ j m, j ≠ T + 10 → ¬ (m = c0 ∧ (j = T + 5 ∨ j = T + 6 ∨ j = T + 7)) → A2 j m = A j m) → I8 T 9 = nI kn → J3 318 29 = nI nn → (∀ n, n ≠ n0 → fb2 n = fb n) → TNc A2 (up2 R 344 n0 1) T kn nn fb2 n0 c0 → TT I8 A2 L J3 (up2 R 344 n0 1) T B nv kn nn sv fb2 (fun a => a ≠ n0 ∧ tk a) (fun n => n = n0) := by
    intro I8 A2 J3 fb2 F1 F2 F3 F4 F5
    have hosA : os A2 T kn = os A T kn := os_c (fun c _ => F1 _ _ (by omega) (fun q => by omega))
    have hfi : ∀ m, fi A2 T kn m = fi A T kn m := fun m => by unfold fi; rw [hosA]
    refine ⟨by rw [hosA]; exact hos, F2, F3, hknl, hnv, fun n hn => ?_⟩
    rw [hfi n]
    obtain ⟨a, b, c, e⟩ := hnd n hn
    refine ⟨TNs_c a hnv (F1 _ _ (by omega) (fun q => by omega)) rfl (fun i => F1 _ _ (by omega) (fun q => by omega)) (hR2 _ _ (fun q => by omega)) (fun i _ => hR2 _ _ (fun q => by omega)) (hR2 _ _ (fun q => by omega)) (hR2 _ _ (fun q => by omega)), fun hne => ?_, ?_, ?_⟩
    · have hcn : fi A T kn n ≠ c0 := fun q => hne (fi_inj (A := A) (T := T) (kn := kn) (by rw [hos]; exact hn) (by rw [hos]; exact hn0) (q.trans hc.symm))
      have b := b hne
      unfold TNd stg at b ⊢
      rw [F1 _ _ (by omega) (fun q => hcn q.1), F1 _ _ (by omega) (fun q => hcn q.1), hR2 343 n (fun q => by omega), hR2 344 n (fun q => hne q.2), hR2 345 n (fun q => by omega)]
      exact b
    · unfold TNr at c ⊢
      rw [F1 _ _ (by omega) (fun q => by omega), hR2 342 n (fun q => by omega)]
      rcases c with q | ⟨x, hx, q1, q2⟩
      · exact Or.inl q
      · refine Or.inr ⟨x, hx, q1, ?_⟩
        have hxn : x ≠ n0 := fun r => hno n hn (by rw [q1, r])
        rcases q2 with ⟨q2, q3⟩ | ⟨q2, q3⟩
        · exact Or.inl ⟨⟨hxn, q2⟩, q3⟩
        · exact Or.inr ⟨fun r => q2 r.2, q3⟩
    · by_cases hne : n = n0
      · rw [hne, hc]; exact F5
      · have hcn : fi A T kn n ≠ c0 := fun q => hne (fi_inj (A := A) (T := T) (kn := kn) (by rw [hos]; exact hn) (by rw [hos]; exact hn0) (q.trans hc.symm))
        unfold TNc at e ⊢
        rw [F4 n hne]
        rcases e with ⟨q, q1, q2, q3⟩ | ⟨f, k, e1, e2, e3, e4, e5, e6, e7⟩
        · exact Or.inl ⟨q, by rw [F1 _ _ (by omega) (fun q => hcn q.1)]; exact q1, by rw [hR2 _ _ (fun q => by omega)]; exact q2, fun m hm => by rw [hR2 _ _ (fun q => by omega)]; exact q3 m hm⟩
        · refine Or.inr ⟨f, k, e1, by rw [F1 _ _ (by omega) (fun q => hcn q.1)]; exact e2, e3, e4, fun y hy => ?_, ?_, fun m hm => ?_⟩
          · rw [F1 _ _ (by omega) (fun q => by omega), F1 _ _ (by omega) (fun q => by omega), hR2 _ _ (fun q => by omega), hR2 _ _ (fun q => by omega)]; exact e5 y hy
          · rw [hR2 _ _ (fun q => by omega), e6]
            exact sm_c _ _ _ (fun i _ _ => by rw [F1 _ _ (by omega) (fun q => by omega)])
          · rw [hR2 _ _ (fun q => by omega), hfi m]; exact e7 m hm
  by_cases hfu : d < nv
  · -- there is something below it
    rw [if_pos hfu] at hfull
    obtain ⟨s1, s2, s3⟩ := pr_sz hPr.2.2.1 hfu
    generalize hsz : szo A B d = s at *
    obtain ⟨A22, e22⟩ : ∃ z, z = up2 (cpy (fil A7 (T + 10) 6 (-1)) (T + 10) 0 d (L (T + 1) c0)) (T + 7) c0 (nI kn) := ⟨_, rfl⟩
    have a22 : ∀ j m, j ≠ T + 10 → ¬ (m = c0 ∧ (j = T + 5 ∨ j = T + 6 ∨ j = T + 7)) → A22 j m = A j m := fun j m q1 q2 => by
      rw [e22]
      unfold up2
      rw [if_neg (fun r => q2 ⟨r.2, Or.inr (Or.inr r.1)⟩), cpy_j q1, fil_j q1]
      exact a7 j m (fun r => q2 ⟨r.1, r.2.elim Or.inl (fun r => Or.inr (Or.inl r))⟩)
    have a225 : A22 (T + 5) c0 = 2 := by rw [e22, up2_j (by omega), cpy_j (by omega), fil_j (by omega)]; exact a75
    have a226 : A22 (T + 6) c0 = nI h := by rw [e22, up2_j (by omega), cpy_j (by omega), fil_j (by omega)]; exact a76
    have a227 : A22 (T + 7) c0 = nI kn := by rw [e22, up2_s]
    have hL := hs0.2.2.2.2.2.1
    have arow : ∀ i, i < 6 → A22 (T + 10) i = if i < d then R 339 (6 * n0 + i) else -1 := fun i hi => by
      rw [e22, up2_j (by omega)]
      unfold cpy
      by_cases h1 : i < d
      · rw [if_pos ⟨rfl, by omega, by omega⟩, if_pos h1, Nat.sub_zero, hL, vlo_e8 _ hw6 (by omega) hi]
        exact ((hs0.2.2.2.1 i h1).1).symm
      · rw [if_neg (fun q => by omega), if_neg h1]
        unfold fil
        rw [if_pos ⟨rfl, hi⟩]
    have hfill := t_fill (A := A7) (w := -1) (vsl_at hT) (by omega) (by omega)
    have hcopy := t_copy (A := fil A7 (T + 10) 6 (-1)) (L := L) (f := 0) hT (show c0 < lT T by omega) (vsl_at hT) (show 0 + d ≤ 6 by omega) (by omega) (by omega) (by omega) (by rw [fil_j (by omega)]; exact a72)
    have hcl : f_X5_finish I G A L T (nI c0) (nI h) = f_X5_finish_L85 T G (fun (I31 : Nat → Nat → Int32) (A32 : Nat → Nat → Int32) (L33 : Nat → Nat → Int64) => some (I31, A32, L33)) FU 0 (lN (e8 (wn R n0) d)) (nI d) (up2 I T 10 (nI (dd + 1))) A22 L := by
      simp (disch := omega) only [f_X5_finish, gd_t g0, gd_t g5, gd_t i5, gd_t g6, gd_t i6, gd_t g2, gd_t i2, gd_t g1, gd_t i1, gd_t g7, gd_t i7, t_cl, bd, hd1, nI_1, nb_2, hnb]
      rw [← e7, hfull, Option.bind_some, if_pos rfl, hfill, Option.bind_some]
      have hcopy : f_X5_copyValues (fil A7 (T + 10) 6 (-1)) L T (nI c0) (T + 10) 0 = _ := hcopy
      rw [hcopy, Option.bind_some, a72, up2_k (show (9 : Nat) ≠ 10 by decide), hk9, ns_nI kn (by omega), ← e22, hL, msk_plc _ (e8_lt hw6)]
    have hrf : f_X7_opens J R (nI p) (nI n0) mt = f_X7_opens_L40 (nI p) (nI n0) mt (fun (I12 : Nat → Nat → Int32) (A13 : Nat → Nat → Int32) => some (I12, A13)) FU 0 (nI d) (up2 J 318 30 (nI (dd + 1))) (up2 R 344 n0 1) := by
      simp (disch := omega) only [f_X7_opens, gd_in, t_cl, bd, nz_1, hd2, nI_1, hR338, hR319, t_eq, show ¬ d = nv by omega, if_false]
    have hXI : XI (up2 I T 10 (nI (dd + 1))) A22 L (up2 J 318 30 (nI (dd + 1))) (up2 R 344 n0 1) T B p nv nr d n0 kn 0 nn mt sv fb tk nn := by
      refine ⟨hnodes _ A22 _ _ a22 (by rw [up2_k (by decide)]; exact hk9) (by rw [up2_k (by decide)]; exact hJ29) (fun n hn => by simp only [if_neg hn]) ?_, TPr_of hPr (fun j k h1 h2 => up2_j (by omega)) (fun j k h1 h2 => a22 j k (by omega) (fun q => by omega)) (fun j k h1 h2 => hR2 _ _ (fun q => by omega)), by rw [up2_k (by decide)]; exact hmt, hn0, by rw [dn_c (hR2 338 n0 (fun q => by omega))]; exact hdd, fun i hi => by rw [arow i (by omega), if_pos hi, hR2 _ _ (fun q => by omega)], fun i h1 h2 => by rw [arow i h2, if_neg (by omega)], hfb, fun n h1 h2 => by omega⟩
      refine Or.inr ⟨kn, 0, by simp only [if_true], a227, by omega, by omega, fun y hy => by omega, by rw [hR2 _ _ (fun q => by omega)]; exact h349, fun m hm => ?_⟩
      rw [hR2 _ _ (fun q => by omega)]
      exact ⟨fun q => absurd q (hno m hm), fun q => by omega⟩
    obtain ⟨I', A', L', J', R', nn', q1, q2, q3, q4, q5⟩ := t_exp (k30 := fun (I31 : Nat → Nat → Int32) (A32 : Nat → Nat → Int32) (L33 : Nat → Nat → Int64) => some (I31, A32, L33)) (k11 := fun (I12 : Nat → Nat → Int32) (A13 : Nat → Nat → Int32) => some (I12, A13)) hT hG hfu s3 (by omega) s 0 FU FU nn _ _ _ _ _ _ (by omega) (t_fu _ (by omega)) (t_fu _ (by omega)) hXI (by rw [a22 _ _ (by omega) (fun q => by omega)]; exact s1) rfl
    have ew : e8 (wn (up2 R 344 n0 1) n0) d = e8 (wn R n0) d := (e8_c (fun i _ => wn_c (hR2 _ _ (fun q => by omega)))).1
    rw [ew] at q1
    obtain ⟨x1, x2, x3, x4, x5, x6, x7, x8, x9, x10⟩ := q4
    have hosP : os A' T kn = os A T kn := os_c (fun c hc => (x4 _ _ (by omega) (by omega)).trans (a22 _ _ (by omega) (fun q => by omega)))
    have hpre : ∀ k, os A' T kn <+: os A' T (kn + k) := fun k => by
      induction k with
      | zero => exact List.prefix_rfl
      | succ k ih => rw [← Nat.add_assoc, os_s]; exact ih.trans (List.prefix_append _ _)
    refine ⟨I', A', L', J', R', kn + s, nn', hcl.trans q1, hrf.trans q2, ?_, ?_, ?_, ?_, ?_, ?_, by omega, by omega, q5, ?_, ?_, q3.2.1, q3.2.2.2.2.2.2.2.2⟩
    · rw [if_pos hfu]; exact q3.1
    · rw [x4 _ _ (by omega) (by omega)]; exact a225
    · rw [x4 _ _ (by omega) (by omega)]; exact a226
    · rw [x9 344 n0 (by omega) (by omega) (by omega) hn0, up2_s]
    · rw [x2 10 (by decide), up2_s]
    · rw [x7 318 30 (fun q => by omega), up2_s]
    · intro m hm
      unfold fi
      obtain ⟨t, ht⟩ := hpre s
      rw [← ht, hosP, List.getD_eq_getElem?_getD, List.getElem?_append_left (by rw [hos]; exact hm), ← List.getD_eq_getElem?_getD]
    · refine ⟨fun j k h1 h2 => (x1 j k h1 h2).trans (up2_j h1), fun k h1 h2 => (x2 k h1).trans (up2_k h2), fun j m h1 h2 => (x3 j m h1 h2).trans (a22 j m h2 (fun q => by omega)), fun j m h1 h2 h3 => (x4 j m (by omega) h2).trans (a22 j m h2 (fun q => h3 ⟨q.1, by omega, by omega⟩)), x5, x6, fun j k h1 => (x7 j k (fun q => h1 ⟨q.1, by omega⟩)).trans (by unfold up2; rw [if_neg (fun q => h1 ⟨q.1, by omega⟩)]), fun j m h1 h2 => (x8 j m h1 h2).trans (hR2 j m (fun q => by omega)), fun j m h1 h2 h3 h4 h5 => (x9 j m h1 h2 h3 h4).trans (hR2 j m h5), fun m h1 => (x10 m h1).trans (hR2 _ _ (fun q => by omega))⟩
  · -- it is full
    have hdv : d = nv := by have := hs0.1; omega
    rw [if_neg hfu] at hfull
    have hcl : f_X5_finish I G A L T (nI c0) (nI h) = some (up2 I T 10 (nI (dd + 1)), A7, L) := by
      simp (disch := omega) only [f_X5_finish, gd_t g0, gd_t g5, gd_t i5, gd_t g6, gd_t i6, t_cl, bd, hd1, nI_1, nb_2, hnb]
      rw [← e7, hfull, Option.bind_some, if_neg z10]
    have hrf : f_X7_opens J R (nI p) (nI n0) mt = some (up2 J 318 30 (nI (dd + 1)), up2 R 344 n0 1) := by
      simp (disch := omega) only [f_X7_opens, gd_in, t_cl, bd, nz_1, hd2, nI_1, hR338, hR319, t_eq, hdv, if_true]
    have a7' : ∀ j m, j ≠ T + 10 → ¬ (m = c0 ∧ (j = T + 5 ∨ j = T + 6 ∨ j = T + 7)) → A7 j m = A j m := fun j m q1 q2 => a7 j m (fun r => q2 ⟨r.1, r.2.elim Or.inl (fun r => Or.inr (Or.inl r))⟩)
    refine ⟨_, A7, L, _, _, kn, nn, hcl, hrf, hnodes _ A7 _ _ a7' (by rw [up2_k (by decide)]; exact hk9) (by rw [up2_k (by decide)]; exact hJ29) (fun n hn => by simp only [if_neg hn]) ?_, a75, a76, up2_s _ _ _ _, up2_s _ _ _ _, up2_s _ _ _ _, Nat.le_refl _, by omega, Nat.le_refl _, fun m _ => ?_, ?_, TPr_of hPr (fun j k h1 h2 => up2_j (by omega)) (fun j k h1 h2 => a7 j k (fun q => by omega)) (fun j k h1 h2 => hR2 _ _ (fun q => by omega)), fun n h1 h2 => by omega⟩
    · rcases (hnd n0 hn0).2.2.2 with ⟨q0, q1, q2, q3⟩ | ⟨f, k, q, _⟩
      · rw [hc] at q1
        exact Or.inl ⟨by simp only [if_true, if_neg hfu], by rw [a7 _ _ (fun q => by omega)]; exact q1, by rw [hR2 _ _ (fun q => by omega)]; exact q2, fun m hm => by rw [hR2 _ _ (fun q => by omega)]; exact q3 m hm⟩
      · rw [hf0] at q; cases q
    · unfold fi
      rw [os_c (A := A) (A' := A7) (fun c _ => a7 _ _ (fun q => by omega))]
    · exact ⟨fun j k h1 h2 => up2_j h1, fun k h1 h2 => up2_k h2, fun j m h1 h2 => a7 j m (fun q => by omega), fun j m h1 h2 h3 => a7 j m (fun q => h3 ⟨q.1, by omega, by omega⟩), fun _ _ _ => rfl, fun _ _ => rfl, fun j k h1 => by unfold up2; rw [if_neg (fun q => h1 ⟨q.1, by omega⟩)], fun j m h1 h2 => hR2 j m (fun q => by omega), fun j m h1 h2 h3 h4 h5 => hR2 j m h5, fun m h1 => hR2 _ _ (fun q => by omega)⟩
end FN

/-! part 70.take -/
/-! THE TIE: the walk takes a node -/
/-- below every done node that isn't full all are known -/
def FC (A R : Nat → Nat → Int32) (B nv nn : Nat) (fb : Nat → Option (Nat × Nat)) : Prop := (∀ n, nn ≤ n → fb n = none) ∧ ∀ n, n < nn → (fb n = none ∧ ¬ (R 344 n = 1 ∧ dn R n < nv)) ∨ ∃ f, fb n = some (f, szo A B (dn R n)) ∧ R 344 n = 1 ∧ dn R n < nv
section TK
variable {I A : Nat → Nat → Int32} {L : Nat → Nat → Int64} {J R : Nat → Nat → Int32} {T B p nv nr n0 kn nn t : Nat} {mt : Int32} {sv : Prop} {fb : Nat → Option (Nat × Nat)} {tk ex : Nat → Prop} {G : Nat → Nat → Nat}
theorem TT_ex {ex' : Nat → Prop} (h : TT I A L J R T B nv kn nn sv fb tk ex) (he : ∀ n, ex n → ex' n) : TT I A L J R T B nv kn nn sv fb tk ex' := by
  obtain ⟨a, b, c, d, e, f⟩ := h
  refine ⟨a, b, c, d, e, fun n hn => ?_⟩
  obtain ⟨g1, g2, g3, g4⟩ := f n hn
  exact ⟨g1, fun q => g2 (fun r => q (he n r)), g3, g4⟩
theorem TNc_c {A' R' : Nat → Nat → Int32} {n c : Nat} (h : TNc A R T kn nn fb n c) (h3 : ∀ m, A' (T + 3) m = A (T + 3) m) (h4 : ∀ m, A' (T + 4) m = A (T + 4) m) (h7 : A' (T + 7) c = A (T + 7) c) (hR : ∀ m, m < nn → R' 342 m = R 342 m) (hR2 : ∀ m, R' 347 m = R 347 m) (hR3 : ∀ m, R' 348 m = R 348 m) (hR4 : R' 349 n = R 349 n) : TNc A' R' T kn nn fb n c := by
  have hfi : ∀ m, fi A' T kn m = fi A T kn m := fun m => by unfold fi; rw [os_c (A := A) (A' := A') (fun c _ => h3 c)]
  unfold TNc at h ⊢
  rcases h with ⟨q, q1, q2, q3⟩ | ⟨f, k, e1, e2, e3, e4, e5, e6, e7⟩
  · exact Or.inl ⟨q, by rw [h7]; exact q1, by rw [hR4]; exact q2, fun m hm => by rw [hR m hm]; exact q3 m hm⟩
  · refine Or.inr ⟨f, k, e1, by rw [h7]; exact e2, e3, e4, fun y hy => by rw [h3, h4, hR2, hR3]; exact e5 y hy, ?_, fun m hm => by rw [hR m hm, hfi m]; exact e7 m hm⟩
    rw [hR4, e6]
    exact sm_c _ _ _ (fun i _ _ => by rw [h3])
/-- the reference's part -/
theorem t_tk0 (hX : TT I A L J R T B nv kn nn sv fb (fun a => ¬ R 345 a = 0) (fun _ => False)) (hT : TrAt T) (hn0 : n0 < nn) (h0 : R 345 n0 = 0) (ht : t < 250) (hJ : J 318 31 = nI t) : f_X7_takes J R (nI n0) = some (up2 J 318 31 (nI (t + 1)), up2 (up2 R 345 n0 1) 346 t (nI n0)) ∧ TT I A L (up2 J 318 31 (nI (t + 1))) (up2 (up2 R 345 n0 1) 346 t (nI n0)) T B nv kn nn sv fb (fun a => a ≠ n0 ∧ ¬ R 345 a = 0) (fun n => n = n0) := by
  have hnn := (tt_nn hT hX).2
  constructor
  · simp (disch := omega) only [f_X7_takes, gd_in, t_cl, bd, nz_1, hJ, nI_1]
  · obtain ⟨a, b, c, d, e, f⟩ := hX
    have hR : ∀ j m, j ≠ 345 → j ≠ 346 → up2 (up2 R 345 n0 1) 346 t (nI n0) j m = R j m := fun j m h1 h2 => by rw [up2_j h2, up2_j h1]
    refine ⟨a, b, by rw [up2_k (by decide)]; exact c, d, e, fun n hn => ?_⟩
    obtain ⟨g1, g2, g3, g4⟩ := f n hn
    refine ⟨TNs_c g1 e rfl rfl (fun _ => rfl) (hR _ _ (by decide) (by decide)) (fun _ _ => hR _ _ (by decide) (by decide)) (hR _ _ (by decide) (by decide)) (hR _ _ (by decide) (by decide)), fun hne => ?_, ?_, TNc_c g4 (fun _ => rfl) (fun _ => rfl) rfl (fun _ _ => hR _ _ (by decide) (by decide)) (fun _ => hR _ _ (by decide) (by decide)) (fun _ => hR _ _ (by decide) (by decide)) (hR _ _ (by decide) (by decide))⟩
    · have g2 := g2 (fun q => q)
      unfold TNd stg at g2 ⊢
      rw [hR 343 n (by decide) (by decide), hR 344 n (by decide) (by decide), up2_j (show (345 : Nat) ≠ 346 by decide), up2_k hne]
      exact g2
    · unfold TNr at g3 ⊢
      rw [hR 342 n (by decide) (by decide)]
      rcases g3 with q | ⟨x, hx, q1, q2⟩
      · exact Or.inl q
      · refine Or.inr ⟨x, hx, q1, ?_⟩
        rcases q2 with ⟨q2, q3⟩ | ⟨q2, q3⟩
        · exact Or.inl ⟨⟨fun r => q2 (by rw [r]; exact h0), q2⟩, q3⟩
        · exact Or.inr ⟨fun r => q2 r.2, q3⟩
/-- the class's part -/
theorem t_tk1 (hX : TT I A L J R T B nv kn nn sv fb (fun a => a ≠ n0 ∧ tk a) (fun n => n = n0)) (hT : TrAt T) (hG : G T 14 = B) (hPr : TPr I A R p B nv nr) (hF : FC A R B nv nn fb) (hn0 : n0 < nn) (h5 : R 345 n0 = 1) (h4 : R 344 n0 = 1) (hsv : sv → (∃ h, h < 5 ∧ R 343 n0 = nI h) ∧ A (T + 6) (fi A T kn n0) = R 343 n0) (htk : ∀ a, a < nn → a ≠ n0 → (tk a ↔ ¬ R 345 a = 0)) (ht : t < 250) (hI : I T 11 = nI t) : ∃ A', f_X5_take I G A T (nI (fi A T kn n0)) = some (up2 I T 11 (nI (t + 1)), A') ∧ TT (up2 I T 11 (nI (t + 1))) A' L J R T B nv kn nn sv fb (fun a => ¬ R 345 a = 0) (fun _ => False) ∧ (∀ j m, j ≠ T + 5 → j ≠ T + 8 → j ≠ T + 9 → A' j m = A j m) ∧ (∀ m, m ≠ t → A' (T + 9) m = A (T + 9) m) ∧ A' (T + 9) t = nI (fi A T kn n0) := by
  have hT58 := (tr_o hT).1
  have hB58 := pr_ge (tp_at hPr)
  have hlT := (tr_l hT).2.2.2.2.2.2.2.2.2.2.2
  obtain ⟨hos, hk9, hJ29, hknl, hnv, hnd⟩ := hX
  have hnn1 : nn ≤ kn := by rw [← hos]; exact os_le _ _ _
  have hc0 := (fi_mem (A := A) (T := T) (kn := kn) (n := n0) (by rw [hos]; exact hn0)).1
  obtain ⟨s0, _, _, s3⟩ := hnd n0 hn0
  have hdn6 : dn R n0 ≤ 6 := by have := s0.1; omega
  -- what is below it
  have hbel : ∃ f wd, wdo G A T (fi A T kn n0) = wd ∧ wd ≤ 6 ∧ Bel A T B (fi A T kn n0) f wd ∧ (A (T + 7) (fi A T kn n0)).toNatClampNeg = f ∧ ∀ m, m < nn → (R 342 m = nI n0 ↔ f ≤ fi A T kn m ∧ fi A T kn m < f + wd) := by
    unfold wdo
    rcases s3 with ⟨q, q1, q2, q3⟩ | ⟨f, k, e1, e2, e3, e4, e5, e6, e7⟩
    · refine ⟨_, 0, by rw [if_pos q1], by omega, Or.inl ⟨q1, rfl⟩, rfl, fun m hm => ⟨fun r => absurd r (q3 m hm), fun r => by omega⟩⟩
    · have hk : k = szo A B (dn R n0) ∧ dn R n0 < nv := by
        rcases hF.2 n0 hn0 with ⟨r, _⟩ | ⟨f', r, _, r2⟩
        · rw [r] at e1; cases e1
        · rw [r] at e1; cases e1; exact ⟨rfl, r2⟩
      have hsz := pr_sz hPr.2.2.1 hk.2
      have hm1 : ¬ A (T + 7) (fi A T kn n0) = -1 := by rw [e2]; exact t_m1 (by omega)
      refine ⟨f, k, ?_, e3, Or.inr ⟨hm1, e2, by omega, ?_, ?_⟩, by rw [e2]; exact t_cl (by omega), e7⟩
      · rw [if_neg hm1, hG, s0.2.2.1, t_cl (by omega), hk.1]; rfl
      · rw [s0.2.2.1]; exact vp_in_nI (by omega) (by omega)
      · rw [s0.2.2.1, t_cl (by omega), hk.1]; exact hsz.1
  obtain ⟨f, wd, w1, w2, w3, w4, w5⟩ := hbel
  have e1 : (nI (fi A T kn n0)).toNatClampNeg = fi A T kn n0 := t_cl (by omega)
  have e2 : (I T 11).toNatClampNeg = t := by rw [hI]; exact t_cl (by omega)
  obtain ⟨A', eA⟩ : ∃ z, z = rea (tkA A T (fi A T kn n0) t) T f wd := ⟨_, rfl⟩
  have hA : ∀ j m, j ≠ T + 5 → j ≠ T + 8 → j ≠ T + 9 → A' j m = A j m := fun j m q1 q2 q3 => by rw [eA, rea_j q2, tkA_j q1 q3]
  have hA5 : ∀ m, m ≠ fi A T kn n0 → A' (T + 5) m = A (T + 5) m := fun m q => by
    rw [eA, rea_j (by omega)]; unfold tkA; rw [up2_j (by omega), up2_k q]
  have hA5' : A' (T + 5) (fi A T kn n0) = 3 := by
    rw [eA, rea_j (by omega)]; unfold tkA; rw [up2_j (by omega), up2_s]; exact nb_3
  have hA8 : ∀ m, A' (T + 8) m = if f ≤ m ∧ m < f + wd then 1 else A (T + 8) m := fun m => by
    rw [eA]; unfold rea
    by_cases q : f ≤ m ∧ m < f + wd
    · rw [if_pos ⟨rfl, q⟩, if_pos q]; exact nz_1
    · rw [if_neg (fun r => q r.2), if_neg q, tkA_j (by omega) (by omega)]
  have hosA : os A' T kn = os A T kn := os_c (fun c _ => hA _ _ (by omega) (by omega) (by omega))
  have hfi : ∀ m, fi A' T kn m = fi A T kn m := fun m => by unfold fi; rw [hosA]
  refine ⟨A', ?_, ⟨by rw [hosA]; exact hos, by rw [up2_k (by decide)]; exact hk9, hJ29, hknl, hnv, fun n hn => ?_⟩, hA, fun m q => ?_, ?_⟩
  · unfold f_X5_take
    rw [gd_t ⟨hT, by rw [e1]; omega, by rw [hG]; exact tp_at hPr, by rw [e1, w1]; exact w2, by rw [e2]; exact ht, by rw [e1, hG, w1, w4]; exact w3, by rw [e2]; exact hI, by rw [e1]⟩, e1, e2, w1, w4, ← eA, nI_1]
  · rw [hfi n]
    obtain ⟨g1, g2, g3, g4⟩ := hnd n hn
    refine ⟨TNs_c g1 hnv (hA _ _ (by omega) (by omega) (by omega)) rfl (fun _ => hA _ _ (by omega) (by omega) (by omega)) rfl (fun _ _ => rfl) rfl rfl, fun _ => ?_, ?_, TNc_c g4 (fun _ => hA _ _ (by omega) (by omega) (by omega)) (fun _ => hA _ _ (by omega) (by omega) (by omega)) (hA _ _ (by omega) (by omega) (by omega)) (fun _ _ => rfl) (fun _ => rfl) (fun _ => rfl) rfl⟩
    · by_cases hne : n = n0
      · subst hne
        unfold TNd stg
        rw [hA5', h5, if_neg z10, h4]
        refine ⟨rfl, Or.inr rfl, Or.inr rfl, fun _ => rfl, fun q => ?_⟩
        obtain ⟨⟨h, r1, r2⟩, r3⟩ := hsv q
        refine ⟨Or.inr ⟨h, r1, r2⟩, fun _ => ⟨by rw [r2]; exact t_m9 (by omega), by rw [hA _ _ (by omega) (by omega) (by omega)]; exact r3⟩⟩
      · have hcn : fi A T kn n ≠ fi A T kn n0 := fun q => hne (fi_inj (A := A) (T := T) (kn := kn) (by rw [hos]; exact hn) (by rw [hos]; exact hn0) q)
        have g2 := g2 hne
        unfold TNd at g2 ⊢
        rw [hA5 _ hcn, hA _ _ (by omega) (by omega) (by omega)]
        exact g2
    · unfold TNr at g3 ⊢
      rw [hA8]
      rcases g3 with ⟨q, q1⟩ | ⟨x, hx, q1, q2⟩
      · refine Or.inl ⟨q, ?_⟩
        split
        · rfl
        · exact q1
      · refine Or.inr ⟨x, hx, q1, ?_⟩
        by_cases hxn : x = n0
        · have := (w5 n hn).mp (by rw [q1, hxn])
          rw [if_pos this]
          exact Or.inl ⟨by show ¬ R 345 x = 0; rw [hxn, h5]; exact z10, rfl⟩
        · have hno : ¬ (f ≤ fi A T kn n ∧ fi A T kn n < f + wd) := fun r => by
            have := (w5 n hn).mpr r
            rw [q1, t_eq (by omega) (by omega)] at this
            exact hxn this
          rw [if_neg hno]
          rcases q2 with ⟨q2, q3⟩ | ⟨q2, q3⟩
          · exact Or.inl ⟨(htk x (by omega) hxn).mp q2.2, q3⟩
          · exact Or.inr ⟨fun r => q2 ⟨hxn, (htk x (by omega) hxn).mpr r⟩, q3⟩
  · rw [eA, rea_j (by omega)]; unfold tkA; rw [up2_k q, up2_j (by omega)]
  · rw [eA, rea_j (by omega)]; unfold tkA; rw [up2_s]
end TK

/-! part 71.plant -/
/-! THE TIE: a tree begins -/
def nw9 (R : Nat → Nat → Int32) (i : Nat) : Nat → Nat → Int32 := fun j m => if j = 364 ∧ m < i then -9 else R j m
theorem r_beg_L {J R : Nat → Nat → Int32} {a1 a2 : Int32} {k7 : (Nat → Nat → Int32) → Option ((Nat → Nat → Int32) × (Nat → Nat → Int32))} : ∀ (k i fu : Nat), i + k = 6 → k < fu → f_X7_begins_L17 a1 a2 J k7 fu (nI i) (nw9 R i) = k7 (nw9 R 6) := by
  intro k
  induction k with
  | zero =>
    intro i fu hi hf
    obtain ⟨fu, rfl⟩ : ∃ z, fu = z + 1 := ⟨fu - 1, by omega⟩
    obtain rfl : i = 6 := by omega
    rw [f_X7_begins_L17, if_neg (by decide)]
  | succ k ih =>
    intro i fu hi hf
    obtain ⟨fu, rfl⟩ : ∃ z, fu = z + 1 := ⟨fu - 1, by omega⟩
    have e2 : up2 (nw9 R i) 364 i (-9) = nw9 R (i + 1) := by
      funext j m
      unfold up2 nw9
      by_cases h : j = 364 ∧ m = i
      · rw [if_pos h, if_pos ⟨h.1, by omega⟩]
      · rw [if_neg h]
        by_cases h2 : j = 364 ∧ m < i
        · rw [if_pos h2, if_pos ⟨h2.1, by omega⟩]
        · rw [if_neg h2, if_neg (fun q => by
            rcases Nat.lt_or_ge m i with r | r
            · exact h2 ⟨q.1, r⟩
            · exact h ⟨q.1, by omega⟩)]
    rw [f_X7_begins_L17, if_pos (show nI i < 6 from nI_lt (b := 6) (by omega) (by omega))]
    simp (disch := omega) only [bd, gd_in, t_cl, e2, nI_1]
    exact ih (i + 1) fu (by omega) (by omega)
/-- what a beginning leaves as it was -/
def XB (T : Nat) (I A : Nat → Nat → Int32) (L : Nat → Nat → Int64) (J R I' A' : Nat → Nat → Int32) (L' : Nat → Nat → Int64) (J' R' : Nat → Nat → Int32) : Prop :=
  (∀ j k, j ≠ T → j ≠ T + 11 → I' j k = I j k) ∧ (∀ j m, (j < T + 2 ∨ T + 8 < j) → j ≠ T + 10 → A' j m = A j m) ∧ (∀ j m, j ≠ T + 1 → L' j m = L j m) ∧ (∀ j k, ¬ (j = 318 ∧ (k = 29 ∨ k = 30 ∨ k = 31 ∨ k = 64 ∨ k = 65)) → J' j k = J j k) ∧ (∀ j m, (j < 338 ∨ j = 346 ∨ j = 347 ∨ j = 348 ∨ 349 < j) → j ≠ 364 → R' j m = R j m)
section PL
variable {I A : Nat → Nat → Int32} {L : Nat → Nat → Int64} {J R : Nat → Nat → Int32} {T B p nv nr : Nat} {mt : Int32} {sv : Prop} {G : Nat → Nat → Nat}
set_option maxHeartbeats 1000000 in
theorem t_plant (hT : TrAt T) (hPr : TPr I A R p B nv nr) (hmt : mt = 0 ∨ mt = 1) : ∃ I' A' L' J' R' nn, f_X5_plant I G A L T B mt = some (I', up2 G T 14 B, A', L') ∧ f_X7_begins J R (nI p) mt = some (J', R') ∧ TT I' A' L' J' R' T B nv 1 nn sv (fun _ => none) (fun a => ¬ R' 345 a = 0) (fun _ => False) ∧ ((nn = 0 ∧ ¬ A' (T + 3) 0 = 0) ∨ (nn = 1 ∧ A' (T + 3) 0 = 0)) ∧ FC A' R' B nv nn (fun _ => none) ∧ (∀ n, n < nn → R' 344 n = 0 ∧ R' 345 n = 0 ∧ R' 343 n = -9) ∧ I' T 10 = nI 0 ∧ J' 318 30 = nI 0 ∧ I' T 11 = nI 0 ∧ J' 318 31 = nI 0 ∧ I' T 15 = mt ∧ TPr I' A' R' p B nv nr ∧ XB T I A L J R I' A' L' J' R' := by
  have hBat := tp_at hPr
  have hB58 := pr_ge hBat
  have hB := hPr.2.1
  have hp := hPr.1
  have hT58 := (tr_o hT).1
  have hnv := hPr.2.2.1.1
  have hnr := hPr.2.2.1.2.1
  have hlT := (tr_l hT).2.2.2.2.2.2.2.2.2.2
  obtain ⟨g0, g1, g2, g3, g4, g5, g6, g7, g8, g9, g10, g11⟩ := tgd hT
  -- both sides before the judgement
  obtain ⟨I7, eI7⟩ : ∃ z, z = up2 (up2 (up2 (up2 I T 15 mt) T 9 0) T 10 0) T 11 0 := ⟨_, rfl⟩
  have i7 : ∀ j k, j ≠ T → I7 j k = I j k := fun j k q => by rw [eI7, up2_j q, up2_j q, up2_j q, up2_j q]
  have i79 : I7 T 9 = nI 0 := by rw [eI7, up2_k (by decide), up2_k (by decide), up2_s]; rfl
  have i710 : I7 T 10 = nI 0 := by rw [eI7, up2_k (by decide), up2_s]; rfl
  have i711 : I7 T 11 = nI 0 := by rw [eI7, up2_s]; rfl
  have i715 : I7 T 15 = mt := by rw [eI7, up2_k (by decide), up2_k (by decide), up2_k (by decide), up2_s]
  have hfill := t_fill (A := A) (w := -1) (vsl_at hT) (by omega) (by omega)
  obtain ⟨A8, e8'⟩ : ∃ z, z = fil A (T + 10) 6 (-1) := ⟨_, rfl⟩
  rw [← e8'] at hfill
  have a8 : ∀ j m, j ≠ T + 10 → A8 j m = A j m := fun j m q => by rw [e8', fil_j q]
  have a810 : ∀ i, i < 6 → A8 (T + 10) i = -1 := fun i hi => by rw [e8']; unfold fil; rw [if_pos ⟨rfl, hi⟩]
  have r9 : ∀ j m, j ≠ 364 → nw9 R 6 j m = R j m := fun j m q => by unfold nw9; rw [if_neg (fun r => q r.1)]
  have r94 : ∀ i, i < 6 → nw9 R 6 364 i = -9 := fun i hi => by unfold nw9; rw [if_pos ⟨rfl, hi⟩]
  have hPr2 : TPr I7 A8 (nw9 R 6) p B nv nr := TPr_of hPr (fun j k h1 h2 => i7 j k (by omega)) (fun j k h1 h2 => a8 j k (by omega)) (fun j k h1 h2 => r9 j k (by omega))
  have hro : TRo A8 (nw9 R 6) (T + 10) := fun i hi => Or.inl ⟨a810 i hi, r94 i hi⟩
  have hRoW : RoW A8 B (T + 10) 0 := ⟨fun i hi => by omega, fun i _ hi => a810 i hi⟩
  obtain ⟨J3, e3⟩ : ∃ z, z = up2 (up2 (up2 J 318 29 0) 318 30 0) 318 31 0 := ⟨_, rfl⟩
  have j3 : ∀ j k, ¬ (j = 318 ∧ (k = 29 ∨ k = 30 ∨ k = 31)) → J3 j k = J j k := fun j k q => by
    rw [e3]; unfold up2
    rw [if_neg (fun r => q ⟨r.1, by omega⟩), if_neg (fun r => q ⟨r.1, by omega⟩), if_neg (fun r => q ⟨r.1, by omega⟩)]
  have j29 : J3 318 29 = nI 0 := by rw [e3, up2_k (by decide), up2_k (by decide), up2_s]; rfl
  have j30 : J3 318 30 = nI 0 := by rw [e3, up2_k (by decide), up2_s]; rfl
  have j31 : J3 318 31 = nI 0 := by rw [e3, up2_s]; rfl
  obtain ⟨J21, hwh, hJf, hJ0, hJ1⟩ := r_whatIs (J := J3) (mt := mt) hPr2 hro (by omega) hRoW (Nat.zero_le nv)
  have hlk := t_look (o := T + 11) (mt := mt) hPr2 (ju_at hT) (vsl_at hT) (by omega) (Nat.zero_le nv) hRoW
  have hlr := lk_r (I := I7) (A := A8) (B := B) (v := T + 10) (nv := nv) (nr := nr) (d := 0) (mt := mt) hnv hnr (by omega)
  generalize lk I7 A8 B (T + 10) nv nr 0 mt = w3 at hwh hJ0 hJ1 hlk hlr
  have eI9 : jdI I7 (T + 11) w3 T 9 = nI 0 := by unfold jdI; rw [up2_j (by omega), up2_j (by omega), up2_j (by omega)]; exact i79
  have eI0 : jdI I7 (T + 11) w3 (T + 11) 0 = w3.1 := by unfold jdI; rw [up2_k (by decide), up2_k (by decide), up2_s]
  have eI1 : jdI I7 (T + 11) w3 (T + 11) 1 = w3.2.1 := by unfold jdI; rw [up2_k (by decide), up2_s]
  have eI2 : jdI I7 (T + 11) w3 (T + 11) 2 = w3.2.2 := by unfold jdI; rw [up2_s]
  have eIo : ∀ k, jdI I7 (T + 11) w3 T k = I7 T k := fun k => by unfold jdI; rw [up2_j (by omega), up2_j (by omega), up2_j (by omega)]
  obtain ⟨A14, hadd, hAf, b2, b3, b4, b5, b6, b7, b8⟩ := t_add (A := A8) (L := L) (kn := 0) (dp := 0) (row := 0) hT eI9 (by omega) (by omega) (by
      rw [eI0]
      rcases hlr with ⟨q, _⟩ | ⟨⟨x, _, hx, q⟩, _⟩
      · exact ⟨0, by omega, q⟩
      · exact ⟨x, by omega, q⟩) (by
      rw [eI1]
      rcases hlr with ⟨_, q⟩ | ⟨_, x, hx, q⟩
      · exact Or.inl q
      · exact Or.inr ⟨x, hx, q⟩)
  rw [eI2] at hadd
  rw [eI0] at b3
  rw [eI1] at b4
  obtain ⟨A', eA⟩ : ∃ z, z = up2 A14 (T + 8) 0 1 := ⟨_, rfl⟩
  have hA : ∀ j m, (j < T + 2 ∨ T + 8 < j) → j ≠ T + 10 → A' j m = A j m := fun j m q1 q2 => by
    rw [eA, up2_j (by omega), hAf j m (fun q => by omega)]; exact a8 j m q2
  have hA0 : ∀ j, j ≠ T + 8 → A' j 0 = A14 j 0 := fun j q => by rw [eA, up2_j q]
  have hcl : f_X5_plant I G A L T B mt = some (up2 (jdI I7 (T + 11) w3) T 9 (nI 1), up2 G T 14 B, A', up2 L (T + 1) 0 (plc w3.2.2 0)) := by
    have i8 := (ti hT (show 0 < lT T by omega)).2.2.2.2.2.2.2
    have hlk : f_X0_look I7 A8 (T + 11) B (T + 10) 0 mt = _ := hlk
    have hadd : f_X5_addJudged (jdI I7 (T + 11) w3) A8 L T 0 0 = _ := hadd
    simp only [f_X5_plant, gd_t g0, bd, gd_t hmt]
    rw [← eI7, hfill, Option.bind_some, gd_t g11, up2_s, i715, hlk, Option.bind_some, hadd, Option.bind_some]
    simp only [gd_t g8]
    rw [gd_t (show inr 0 (ln (T + 8)) from i8), nz_1, ← eA]
  have hb : f_X7_begins J R (nI p) mt = if w3.1 = 0 then (Option.bind (f_X7_addNode J21 (nw9 R 6) 0 (-9)) fun (I14, A15) => some (I14, A15)) else some (J21, nw9 R 6) := by
    have hL := r_beg_L (J := J3) (R := R) (a1 := nI p) (a2 := mt) (k7 := fun (A8 : Nat → Nat → Int32) => Option.bind (f_X7_whatIs J3 A8 (nI p) 0 mt) fun (r9, I10, A11) => if r9 = 0 then (Option.bind (f_X7_addNode I10 A11 0 (-9)) fun (I14, A15) => some (I14, A15)) else (some (I10, A11))) 6 0 FU (by omega) (t_fu _ (by omega))
    have e0 : nw9 R 0 = R := by funext j m; unfold nw9; rw [if_neg (fun q => by omega)]
    rw [e0] at hL
    have hwh : f_X7_whatIs J3 (nw9 R 6) (nI p) 0 mt = _ := hwh
    rw [hwh, Option.bind_some] at hL
    simp only [f_X7_begins, bd]
    rw [← e3]
    exact hL
  have hJn : ∀ j k, ¬ (j = 318 ∧ (k = 29 ∨ k = 30 ∨ k = 31 ∨ k = 64 ∨ k = 65)) → J21 j k = J j k := fun j k q => (hJf j k (fun r => q ⟨r.1, by omega⟩)).trans (j3 j k (fun r => q ⟨r.1, by omega⟩))
  have hI' : ∀ j k, j ≠ T → j ≠ T + 11 → up2 (jdI I7 (T + 11) w3) T 9 (nI 1) j k = I j k := fun j k h1 h2 => by
    rw [up2_j h1]; unfold jdI; rw [up2_j h2, up2_j h2, up2_j h2]; exact i7 j k h1
  have hIT : ∀ k, k ≠ 9 → up2 (jdI I7 (T + 11) w3) T 9 (nI 1) T k = I7 T k := fun k h => by rw [up2_k h]; exact eIo k
  have hL' : ∀ j m, j ≠ T + 1 → up2 L (T + 1) 0 (plc w3.2.2 0) j m = L j m := fun j m h => up2_j h
  have hPrF : ∀ R' : Nat → Nat → Int32, (∀ j m, 319 ≤ j → j ≤ 328 → R' j m = R j m) → TPr (up2 (jdI I7 (T + 11) w3) T 9 (nI 1)) A' R' p B nv nr := fun R' h => TPr_of hPr (fun j k h1 h2 => hI' j k (by omega) (by omega)) (fun j k h1 h2 => hA j k (by omega) (by omega)) h
  have hosS := os_s A' T 0
  rw [hA0 _ (by omega), b3] at hosS
  by_cases h0 : w3.1 = 0
  · rw [if_pos h0] at hb hosS
    obtain ⟨R31, hra, ra0, ra1, ra2, ra3, ra4, ra5, ra6, ra7, ra8, ra9⟩ := r_add (J := J21) (R := nw9 R 6) (nn := 0) (d := 0) (w := fun _ => 0) (a2 := -9) ((hJf 318 29 (fun q => by omega)).trans j29) (by omega) (by omega) (fun i hi => by omega)
    have hra : f_X7_addNode J21 (nw9 R 6) 0 (-9) = _ := hra
    rw [hra, Option.bind_some] at hb
    dsimp only at hb
    have hos1 : os A' T 1 = [0] := hosS
    have hfi0 : fi A' T 1 0 = 0 := by unfold fi; rw [hos1]; rfl
    have hdn : dn R31 0 = 0 := by unfold dn; rw [ra1]; exact t_cl (by omega)
    refine ⟨_, A', _, _, R31, 1, hcl, hb, ⟨by rw [hos1]; rfl, up2_s _ _ _ _, up2_s _ _ _ _, by omega, hnv, fun n hn => ?_⟩, Or.inr ⟨rfl, by rw [hA0 _ (by omega), b3]; exact h0⟩, ⟨fun _ _ => rfl, fun n hn => Or.inl ⟨rfl, fun q => ?_⟩⟩, fun n hn => ?_, by rw [hIT _ (by decide)]; exact i710, by rw [up2_k (by decide), hJf 318 30 (fun q => by omega)]; exact j30, by rw [hIT _ (by decide)]; exact i711, by rw [up2_k (by decide), hJf 318 31 (fun q => by omega)]; exact j31, by rw [hIT _ (by decide)]; exact i715, hPrF R31 (fun j m h1 h2 => (ra0 j m (fun q => by omega) (fun q => by omega)).trans (r9 j m (by omega))), hI', hA, hL', fun j k q => by unfold up2; rw [if_neg (fun r => q ⟨r.1, by omega⟩)]; exact hJn j k q, fun j m h1 h2 => (ra0 j m (fun q => by omega) (fun q => by omega)).trans (r9 j m h2)⟩
    · obtain rfl : n = 0 := by omega
      rw [hfi0]
      refine ⟨⟨by rw [hdn]; omega, by rw [hdn]; exact ra1, by rw [hdn, hA0 _ (by omega)]; exact b2, fun i hi => by rw [hdn] at hi; omega, fun i _ hi => by rw [ra9 i hi, if_neg (by omega)], ?_, ?_⟩, fun _ => ?_, ?_, ?_⟩
      · have ez : e8 (wn R31 0) 0 = 0 := by simp [e8, dg]
        rw [up2_s, hdn, ra3, hJ0 h0, ez, show lN 0 = (0 : Int64) by decide]
      · have ez : e7 (wn R31 0) 0 = e7 (fun _ => 0) 0 := by simp [e7, dg]
        rw [hdn, ra8, ez]
      · unfold TNd stg
        rw [hA0 _ (by omega), ra4, ra5, ra6, b5, if_pos rfl, if_pos rfl, if_pos rfl]
        exact ⟨rfl, Or.inl rfl, Or.inl rfl, fun q => absurd q z01, fun _ => ⟨Or.inl rfl, fun q => absurd q z01⟩⟩
      · exact Or.inl ⟨ra2, by rw [eA, up2_s]⟩
      · refine Or.inl ⟨rfl, by rw [hA0 _ (by omega)]; exact b7, ra7, fun m hm => ?_⟩
        obtain rfl : m = 0 := by omega
        rw [ra2]; exact fun r => t_m9 (n := 0) (by omega) r.symm
    · obtain rfl : n = 0 := by omega
      rw [ra5] at q; exact absurd q.1 z01
    · obtain rfl : n = 0 := by omega
      exact ⟨ra5, ra6, ra4⟩
  · rw [if_neg h0] at hb hosS
    have hos1 : os A' T 1 = [] := hosS
    refine ⟨_, A', _, J21, nw9 R 6, 0, hcl, hb, ⟨by rw [hos1]; rfl, up2_s _ _ _ _, (hJf 318 29 (fun q => by omega)).trans j29, by omega, hnv, fun n hn => by omega⟩, Or.inl ⟨rfl, by rw [hA0 _ (by omega), b3]; exact h0⟩, ⟨fun _ _ => rfl, fun n hn => by omega⟩, fun n hn => by omega, by rw [hIT _ (by decide)]; exact i710, (hJf 318 30 (fun q => by omega)).trans j30, by rw [hIT _ (by decide)]; exact i711, (hJf 318 31 (fun q => by omega)).trans j31, by rw [hIT _ (by decide)]; exact i715, hPrF _ (fun j m h1 h2 => r9 j m (by omega)), hI', hA, hL', hJn, fun j m h1 h2 => r9 j m h2⟩
end PL

/-! part 72.walk -/
/-! THE TIE: the walk -/
/-- a tree with its counts and what the walk took -/
def TSw (I : Nat → Nat → Int32) (G : Nat → Nat → Nat) (A : Nat → Nat → Int32) (L : Nat → Nat → Int64) (J R : Nat → Nat → Int32) (T p B nv nr kn nn dd tk : Nat) (mt : Int32) (sv : Prop) (fb : Nat → Option (Nat × Nat)) : Prop :=
  TrAt T ∧ G T 14 = B ∧ TPr I A R p B nv nr ∧ I T 15 = mt ∧ TT I A L J R T B nv kn nn sv fb (fun a => ¬ R 345 a = 0) (fun _ => False) ∧ FC A R B nv nn fb ∧ I T 10 = nI dd ∧ J 318 30 = nI dd ∧ I T 11 = nI tk ∧ J 318 31 = nI tk ∧ ∀ i, i < tk → ∃ m, m < nn ∧ R 346 i = nI m ∧ R 345 m = 1 ∧ A (T + 9) i = nI (fi A T kn m)
/-- what the walk leaves as it was -/
def XW (T : Nat) (I A J R I' A' J' R' : Nat → Nat → Int32) : Prop := (∀ j k, ¬ (j = T ∧ k = 11) → I' j k = I j k) ∧ (∀ j m, j ≠ T + 5 → j ≠ T + 8 → j ≠ T + 9 → A' j m = A j m) ∧ (∀ j k, ¬ (j = 318 ∧ k = 31) → J' j k = J j k) ∧ (∀ j m, j ≠ 345 → j ≠ 346 → R' j m = R j m) ∧ (∀ m, ¬ R 344 m = 1 → R' 345 m = R 345 m)
theorem XW_rf {T : Nat} {I A J R : Nat → Nat → Int32} : XW T I A J R I A J R := ⟨fun _ _ _ => rfl, fun _ _ _ _ _ => rfl, fun _ _ _ => rfl, fun _ _ _ _ => rfl, fun _ _ => rfl⟩
theorem XW_tr {T : Nat} {I A J R I1 A1 J1 R1 I2 A2 J2 R2 : Nat → Nat → Int32} (a : XW T I A J R I1 A1 J1 R1) (b : XW T I1 A1 J1 R1 I2 A2 J2 R2) : XW T I A J R I2 A2 J2 R2 := by
  obtain ⟨a1, a2, a3, a4, a5⟩ := a
  obtain ⟨b1, b2, b3, b4, b5⟩ := b
  exact ⟨fun j k h => (b1 j k h).trans (a1 j k h), fun j m h1 h2 h3 => (b2 j m h1 h2 h3).trans (a2 j m h1 h2 h3), fun j k h => (b3 j k h).trans (a3 j k h), fun j m h1 h2 => (b4 j m h1 h2).trans (a4 j m h1 h2), fun m h => (b5 m (by rw [a4 344 m (by decide) (by decide)]; exact h)).trans (a5 m h)⟩
section WK
variable {I A : Nat → Nat → Int32} {L : Nat → Nat → Int64} {J R : Nat → Nat → Int32} {T p B nv nr kn nn dd tk n0 : Nat} {mt : Int32} {sv : Prop} {fb : Nat → Option (Nat × Nat)} {G : Nat → Nat → Nat}
theorem FC_c {A' R' : Nat → Nat → Int32} (h : FC A R B nv nn fb) (h1 : ∀ m, A' (B + 1) m = A (B + 1) m) (h2 : ∀ n, n < nn → R' 344 n = R 344 n) (h3 : ∀ n, n < nn → R' 338 n = R 338 n) : FC A' R' B nv nn fb := by
  refine ⟨h.1, fun n hn => ?_⟩
  unfold szo
  rw [h1, h2 n hn, dn_c (h3 n hn)]
  exact h.2 n hn
theorem t_tk (h : TSw I G A L J R T p B nv nr kn nn dd tk mt sv fb) (hn0 : n0 < nn) (h5 : R 345 n0 = 0) (h4 : R 344 n0 = 1) (ht : tk < 250) : ∃ A', f_X5_take I G A T (nI (fi A T kn n0)) = some (up2 I T 11 (nI (tk + 1)), A') ∧ f_X7_takes J R (nI n0) = some (up2 J 318 31 (nI (tk + 1)), up2 (up2 R 345 n0 1) 346 tk (nI n0)) ∧ TSw (up2 I T 11 (nI (tk + 1))) G A' L (up2 J 318 31 (nI (tk + 1))) (up2 (up2 R 345 n0 1) 346 tk (nI n0)) T p B nv nr kn nn dd (tk + 1) mt sv fb ∧ XW T I A J R (up2 I T 11 (nI (tk + 1))) A' (up2 J 318 31 (nI (tk + 1))) (up2 (up2 R 345 n0 1) 346 tk (nI n0)) ∧ fi A' T kn = fi A T kn := by
  obtain ⟨hT, hG, hPr, hmt, hX, hF, hd1, hd2, ht1, ht2, hw⟩ := h
  have hT58 := (tr_o hT).1
  have hB58 := pr_ge (tp_at hPr)
  obtain ⟨q1, q2⟩ := t_tk0 (t := tk) hX hT hn0 h5 ht ht2
  have hR : ∀ j m, j ≠ 345 → j ≠ 346 → up2 (up2 R 345 n0 1) 346 tk (nI n0) j m = R j m := fun j m h1 h2 => by rw [up2_j h2, up2_j h1]
  have hR5 : ∀ m, m ≠ n0 → up2 (up2 R 345 n0 1) 346 tk (nI n0) 345 m = R 345 m := fun m h => by rw [up2_j (by decide), up2_k h]
  have hR5' : up2 (up2 R 345 n0 1) 346 tk (nI n0) 345 n0 = 1 := by rw [up2_j (by decide), up2_s]
  have hPr2 : TPr I A (up2 (up2 R 345 n0 1) 346 tk (nI n0)) p B nv nr := TPr_of hPr (fun _ _ _ _ => rfl) (fun _ _ _ _ => rfl) (fun j k h1 h2 => hR j k (by omega) (by omega))
  have hF2 : FC A (up2 (up2 R 345 n0 1) 346 tk (nI n0)) B nv nn fb := FC_c hF (fun _ => rfl) (fun n _ => hR _ _ (by decide) (by decide)) (fun n _ => hR _ _ (by decide) (by decide))
  have hnode := (hX.2.2.2.2.2 n0 hn0).2.1 (fun q => q)
  obtain ⟨A', q3, q4, q5, q6, q7⟩ := t_tk1 (tk := fun a => ¬ R 345 a = 0) (t := tk) q2 hT hG hPr2 hF2 hn0 hR5' (by rw [hR _ _ (by decide) (by decide)]; exact h4) (fun s => by
      obtain ⟨s1, s2⟩ := hnode.2.2.2.2 s
      rw [hR _ _ (by decide) (by decide)]
      exact ⟨s1.resolve_left (s2 h4).1, (s2 h4).2⟩) (fun a _ hne => by rw [hR5 a hne]) ht ht1
  have hfi : fi A' T kn = fi A T kn := by
    funext m; unfold fi; rw [os_c (A := A) (A' := A') (fun c _ => q5 _ _ (by omega) (by omega) (by omega))]
  refine ⟨A', q3, q1, ⟨hT, hG, TPr_of hPr (fun j k h1 h2 => up2_j (by omega)) (fun j k h1 h2 => q5 j k (by omega) (by omega) (by omega)) (fun j k h1 h2 => hR j k (by omega) (by omega)), by rw [up2_k (by decide)]; exact hmt, q4, FC_c hF2 (fun m => q5 _ _ (by omega) (by omega) (by omega)) (fun _ _ => rfl) (fun _ _ => rfl), by rw [up2_k (by decide)]; exact hd1, by rw [up2_k (by decide)]; exact hd2, up2_s _ _ _ _, up2_s _ _ _ _, fun i hi => ?_⟩, ⟨fun j k h => by unfold up2; rw [if_neg h], q5, fun j k h => by unfold up2; rw [if_neg h], hR, fun m hm => hR5 m (fun e => hm (by rw [e]; exact h4))⟩, hfi⟩
  rw [hfi]
  by_cases hit : i = tk
  · subst hit
    exact ⟨n0, hn0, up2_s _ _ _ _, hR5', q7⟩
  · obtain ⟨m, m1, m2, m3, m4⟩ := hw i (by omega)
    have hmn : m ≠ n0 := fun e => by rw [e, h5] at m3; exact absurd m3 z01
    exact ⟨m, m1, by rw [up2_k hit, up2_j (by decide)]; exact m2, by rw [hR5 m hmn]; exact m3, by rw [q6 i hit]; exact m4⟩
end WK
section WL
variable {L : Nat → Nat → Int64} {T p B nv nr kn nn dd : Nat} {mt : Int32} {sv : Prop} {fb : Nat → Option (Nat × Nat)} {G : Nat → Nat → Nat}
/-- the results: 0 stopped, 1 found, 2 nothing, 3 limited, 4 large -/
theorem t_walk (h14 : G 14 0 = T) : ∀ (k i fu fu' tk : Nat) (I A J R : Nat → Nat → Int32), tk + k = 250 → 0 < k → i ≤ tk → k < fu → k < fu' → I 14 2 = J 318 24 → TSw I G A L J R T p B nv nr kn nn dd tk mt sv fb → ∃ r I' A' J' R' tk', f_X3_walkOn_L2 G L (fun I6 A7 => some ((2 : Int32), I6, A7)) (fun I9 A10 => some ((0 : Int32), I9, A10)) (fun I12 A13 => some ((1 : Int32), I12, A13)) (fun I15 A16 => some ((4 : Int32), I15, A16)) (fun I18 A19 => some ((3 : Int32), I18, A19)) (fun I21 A22 => some ((0 : Int32), I21, A22)) fu (nI i) I A = some (r, I', A') ∧ f_X7_walks_L5 (nI p) (fun I8 A9 => some ((1 : Int32), I8, A9)) (fun I11 A12 => some ((4 : Int32), I11, A12)) (fun I14 A15 => some ((3 : Int32), I14, A15)) (fun v17 I18 A19 => if v17 = (-9) then (some ((2 : Int32), I18, A19)) else (some ((0 : Int32), I18, A19))) fu' (enc (-9) (nxw R nn)) J R = some (r, J', R') ∧ TSw I' G A' L J' R' T p B nv nr kn nn dd tk' mt sv fb ∧ XW T I A J R I' A' J' R' ∧ tk ≤ tk' ∧ tk' ≤ 250 ∧ ((r = 0 ∧ tk' < 250 ∧ (∃ m, nxw R' nn = some m ∧ R' 344 m = 0)) ∨ (r = 1 ∧ 0 < tk' ∧ ∃ m, m < nn ∧ R' 346 (tk' - 1) = nI m ∧ dn R' m = nv) ∨ (r = 2 ∧ nxw R' nn = none) ∨ r = 3 ∨ r = 4) := by
  intro k
  induction k with
  | zero => intro i fu fu' tk I A J R h1 h2; omega
  | succ k ih =>
    intro i fu fu' tk I A J R hk _ hit hf hf' hlim hS
    obtain ⟨fu, rfl⟩ : ∃ z, fu = z + 1 := ⟨fu - 1, by omega⟩
    obtain ⟨fu', rfl⟩ : ∃ z, fu' = z + 1 := ⟨fu' - 1, by omega⟩
    have hS0 := hS
    obtain ⟨hT, hG, hPr, hmt, hX, hF, hd1, hd2, ht1, ht2, hw⟩ := hS
    have hT58 := (tr_o hT).1
    have hT22 : 22 ≤ T := by rcases hT with h | h | h <;> omega
    have hB58 := pr_ge (tp_at hPr)
    have hp := hPr.1
    have hnv := hPr.2.2.1.1
    have hlT := (tr_l hT).2.2.2.2.2.2.2.2.2.2.2
    have hnn := tt_nn hT hX
    have hknl := hX.2.2.2.1
    obtain ⟨g0, g1, g2, g3, g4, g5, g6, g7, g8, g9, g10, g11⟩ := tgd hT
    obtain ⟨n1, n2⟩ := t_nxw hX hT
    rw [f_X3_walkOn_L2, if_pos (show nI i < 250 from nI_lt (b := 250) (by omega) (by omega)), h14, gd_t g0, n1, Option.bind_some, f_X7_walks_L5]
    cases hnx : nxw R nn with
    | none =>
      refine ⟨2, I, A, J, R, tk, ?_, ?_, hS0, XW_rf, Nat.le_refl _, by omega, Or.inr (Or.inr (Or.inl ⟨rfl, hnx⟩))⟩
      · rw [if_pos (show enc (-1) (Option.map (fi A T kn) none) = -1 from rfl)]
      · rw [if_pos (show enc (-9) none = -9 from rfl), if_pos (show enc (-9) none = -9 from rfl)]
    | some n0 =>
      obtain ⟨o1, o2, o3⟩ := nxw_o hnx
      obtain ⟨s1, s2, s3, s4⟩ := hX.2.2.2.2.2 n0 o1
      have s2 := s2 (fun q => q)
      have hc0 := (fi_mem (A := A) (T := T) (kn := kn) (n := n0) (by rw [hX.1]; exact o1)).1
      obtain ⟨i1, i2, i3, i4, i5, i6, i7, i8⟩ := ti hT (show fi A T kn n0 < lT T by omega)
      have e1 : enc (-1) (Option.map (fi A T kn) (some n0)) = nI (fi A T kn n0) := rfl
      have e2 : enc (-9) (some n0) = nI n0 := rfl
      rw [e1, e2, if_neg (t_m1 (by omega)), gd_t g5, gd_t i5, t_cl (show fi A T kn n0 < 2147483648 by omega), if_neg (t_m9 (by omega)), gd_in (show n0 < 2000 by omega) (by omega), t_cl (show n0 < 2147483648 by omega)]
      by_cases h4 : R 344 n0 = 0
      · refine ⟨0, I, A, J, R, tk, ?_, ?_, hS0, XW_rf, Nat.le_refl _, by omega, Or.inl ⟨rfl, by omega, n0, hnx, h4⟩⟩
        · have : ¬ A (T + 5) (fi A T kn n0) = 2 := by
            rw [s2.1]; unfold stg; rw [o2, h4, if_pos rfl, if_pos rfl]; split <;> decide
          rw [if_neg this]
        · rw [if_pos h4, if_neg (t_m9 (by omega))]
      · have h41 : R 344 n0 = 1 := s2.2.1.resolve_left h4
        have hst : A (T + 5) (fi A T kn n0) = 2 := by
          rw [s2.1]; unfold stg; rw [o2, if_pos rfl, if_neg h4]
        obtain ⟨A1, p1, p2, p3, p4, p5⟩ := t_tk hS0 o1 o2 h41 (by omega)
        have hP1 := p3.2.2.1
        have hX1 := p3.2.2.2.2.1
        have hfull := t_full (I := up2 I T 11 (nI (tk + 1))) (A := A1) (d := dn R n0) (nv := nv) hT hG (tp_at hPr) (show fi A T kn n0 < lT T by omega) (by rw [p4.2.1 _ _ (by omega) (by omega) (by omega)]; exact s1.2.2.1) hP1.2.2.1.2.2.1 (by have := s1.1; omega) hnv
        have hd338 : up2 (up2 R 345 n0 1) 346 tk (nI n0) 338 n0 = nI (dn R n0) := by rw [p4.2.2.2.1 _ _ (by decide) (by decide)]; exact s1.2.1
        have hv319 : up2 (up2 R 345 n0 1) 346 tk (nI n0) 319 p = nI nv := hP1.2.2.2.1
        have hI11 : up2 I T 11 (nI (tk + 1)) T 11 = nI (tk + 1) := up2_s _ _ _ _
        have hJ31 : up2 J 318 31 (nI (tk + 1)) 318 31 = nI (tk + 1) := up2_s _ _ _ _
        have hI2 : up2 I T 11 (nI (tk + 1)) 14 2 = I 14 2 := up2_j (by omega)
        have hJ2 : up2 J 318 31 (nI (tk + 1)) 318 24 = J 318 24 := up2_k (by decide)
        have hdle := s1.1
        rw [if_pos hst, p1, Option.bind_some, if_neg h4, p2, Option.bind_some]
        dsimp only
        rw [hfull, Option.bind_some, gd_in hp (by omega), t_cl (show p < 2147483648 by omega), hd338, hv319, hI11, hJ31, hI2, hJ2, hlim]
        by_cases hfu : dn R n0 < nv
        · rw [if_pos hfu, if_pos rfl, if_neg (show ¬ nI (dn R n0) = nI nv from fun q => by rw [t_eq (by omega) (by omega)] at q; omega)]
          by_cases h250 : tk + 1 = 250
          · refine ⟨4, _, A1, _, _, tk + 1, ?_, ?_, p3, p4, by omega, by omega, Or.inr (Or.inr (Or.inr (Or.inr rfl)))⟩
            · rw [if_neg (show ¬ nI (tk + 1) < 250 from nI_nlt (b := 250) (by omega) (by omega))]
            · rw [if_pos (show nI (tk + 1) = 250 by rw [h250]; rfl)]
          · rw [if_pos (show nI (tk + 1) < 250 from nI_lt (b := 250) (by omega) (by omega)), if_neg (show ¬ nI (tk + 1) = 250 from fun q => by
              have q : nI (tk + 1) = nI 250 := q
              rw [t_eq (by omega) (by omega)] at q; omega)]
            by_cases hl : nI (tk + 1) = J 318 24
            · refine ⟨3, _, A1, _, _, tk + 1, ?_, ?_, p3, p4, by omega, by omega, Or.inr (Or.inr (Or.inr (Or.inl rfl)))⟩
              · rw [if_pos hl]
              · rw [if_pos hl]
            · rw [if_neg hl, if_neg hl, nI_1]
              obtain ⟨m1, m2⟩ := t_nxw hX1 hT
              rw [m2, Option.bind_some]
              obtain ⟨r, I', A', J', R', tk', q1, q2, q3, q4, q5, q6, q7⟩ := ih (i + 1) fu fu' (tk + 1) _ A1 _ _ (by omega) (by omega) (by omega) (by omega) (by omega) (by rw [hI2, hJ2]; exact hlim) p3
              exact ⟨r, I', A', J', R', tk', q1, q2, q3, XW_tr p4 q4, by omega, q6, q7⟩
        · have hdv : dn R n0 = nv := by omega
          rw [if_neg hfu, if_neg z10, if_pos (show nI (dn R n0) = nI nv by rw [hdv])]
          refine ⟨1, _, A1, _, _, tk + 1, rfl, rfl, p3, p4, by omega, by omega, Or.inr (Or.inl ⟨rfl, by omega, n0, o1, ?_, ?_⟩)⟩
          · rw [Nat.add_sub_cancel, up2_s]
          · rw [dn_c (p4.2.2.2.1 338 n0 (by decide) (by decide))]; exact hdv
end WL

/-! part 73.turn -/
/-! THE TIE: turns -/
/-- how many helpers hold a node -/
def hc (A : Nat → Nat → Int32) : Nat := (if A 15 0 = -1 then 0 else 1) + (if A 15 1 = -1 then 0 else 1) + (if A 15 2 = -1 then 0 else 1) + (if A 15 3 = -1 then 0 else 1) + (if A 15 4 = -1 then 0 else 1)
/-- helper h: what it holds; what it had and when it is to fail; what is told of it -/
def THo (A R : Nat → Nat → Int32) (T kn nn h : Nat) : Prop := (A 15 h = -1 ∧ R 337 h = -9) ∨ ∃ n, n < nn ∧ A 15 h = nI (fi A T kn n) ∧ R 337 h = nI n ∧ R 343 n = nI h ∧ R 344 n = 0
def THa (A R : Nat → Nat → Int32) (E hb h : Nat) : Prop := ∃ q f, q ≤ hb ∧ A 16 h = nI q ∧ R 336 h = nI q ∧ (¬ A 15 h = -1 → 1 ≤ q) ∧ f ≤ 200 ∧ A (E + 1) h = nI f ∧ (R 335 h = nI f ∨ (R 335 h = 0 ∧ (f < q ∨ (A 15 h = -1 ∧ f ≤ q))))
def THt (A R : Nat → Nat → Int32) (E h : Nat) : Prop := A (E + 3) h = R 334 h ∧ A (E + 4) h = R 332 h ∧ A (E + 5) h = R 333 h
/-- the team: z helpers, sc turns in the schedule -/
def TTe (I A J R : Nat → Nat → Int32) (E z sc : Nat) : Prop := I E 0 = nI z ∧ J 318 15 = nI z ∧ 1 ≤ z ∧ z ≤ 5 ∧ I E 1 = nI sc ∧ J 318 18 = nI sc ∧ sc ≤ 200 ∧ ∀ i, i < sc → A (E + 2) i = R 331 i ∧ ∃ x, x < 5 ∧ R 331 i = nI x
def TSv (I : Nat → Nat → Int32) (G : Nat → Nat → Nat) (A : Nat → Nat → Int32) (L : Nat → Nat → Int64) (J R : Nat → Nat → Int32) (T E p B nv nr kn nn dd tk tn hb z sc : Nat) (fb : Nat → Option (Nat × Nat)) : Prop :=
  TSw I G A L J R T p B nv nr kn nn dd tk 1 True fb ∧ TeAt E ∧ G 14 0 = T ∧ G 14 1 = E ∧ kn ≤ 1 + 6 * dd ∧ dd + hc A ≤ tk + 34 ∧ (∀ h, h < 5 → THo A R T kn nn h ∧ THa A R E hb h ∧ THt A R E h) ∧ TTe I A J R E z sc ∧ I 14 2 = J 318 24 ∧ I 14 3 = nI tn ∧ J 318 28 = nI tn ∧ T < 46 ∧ tk ≤ 250
/-- what a turn leaves as it was -/
def XT (T E : Nat) (I A : Nat → Nat → Int32) (L : Nat → Nat → Int64) (J R I' A' : Nat → Nat → Int32) (L' : Nat → Nat → Int64) (J' R' : Nat → Nat → Int32) : Prop := (∀ j k, j ≠ T → j ≠ T + 11 → ¬ (j = 14 ∧ k = 3) → I' j k = I j k) ∧ (∀ k, k ≠ 9 → k ≠ 10 → k ≠ 11 → I' T k = I T k) ∧ (∀ j m, j ≠ 15 → j ≠ 16 → j ≠ E + 3 → j ≠ E + 4 → j ≠ E + 5 → (j < T + 2 ∨ T + 10 < j) → A' j m = A j m) ∧ (∀ j m, j ≠ T + 1 → L' j m = L j m) ∧ (∀ j k, ¬ (j = 318 ∧ (k = 28 ∨ k = 29 ∨ k = 30 ∨ k = 31 ∨ k = 64 ∨ k = 65)) → J' j k = J j k) ∧ (∀ j m, (j < 332 ∨ 349 < j) → j ≠ 364 → R' j m = R j m)
theorem XT_tr {T E : Nat} {I A : Nat → Nat → Int32} {L : Nat → Nat → Int64} {J R I1 A1 : Nat → Nat → Int32} {L1 : Nat → Nat → Int64} {J1 R1 I2 A2 : Nat → Nat → Int32} {L2 : Nat → Nat → Int64} {J2 R2 : Nat → Nat → Int32} (a : XT T E I A L J R I1 A1 L1 J1 R1) (b : XT T E I1 A1 L1 J1 R1 I2 A2 L2 J2 R2) : XT T E I A L J R I2 A2 L2 J2 R2 := by
  obtain ⟨a1, a2, a3, a4, a5, a6⟩ := a
  obtain ⟨b1, b2, b3, b4, b5, b6⟩ := b
  exact ⟨fun j k h1 h2 h3 => (b1 j k h1 h2 h3).trans (a1 j k h1 h2 h3), fun k h1 h2 h3 => (b2 k h1 h2 h3).trans (a2 k h1 h2 h3), fun j m h1 h2 h3 h4 h5 h6 => (b3 j m h1 h2 h3 h4 h5 h6).trans (a3 j m h1 h2 h3 h4 h5 h6), fun j m h => (b4 j m h).trans (a4 j m h), fun j k h => (b5 j k h).trans (a5 j k h), fun j m h1 h2 => (b6 j m h1 h2).trans (a6 j m h1 h2)⟩
theorem XT_rf {T E : Nat} {I A : Nat → Nat → Int32} {L : Nat → Nat → Int64} {J R : Nat → Nat → Int32} : XT T E I A L J R I A L J R := ⟨fun _ _ _ _ _ => rfl, fun _ _ _ _ => rfl, fun _ _ _ _ _ _ _ _ => rfl, fun _ _ _ => rfl, fun _ _ _ => rfl, fun _ _ _ _ => rfl⟩
theorem XT_w {T E : Nat} {I A : Nat → Nat → Int32} {L : Nat → Nat → Int64} {J R I' A' J' R' : Nat → Nat → Int32} (h : XW T I A J R I' A' J' R') : XT T E I A L J R I' A' L J' R' := by
  obtain ⟨a1, a2, a3, a4, a5⟩ := h
  exact ⟨fun j k h1 _ _ => a1 j k (fun q => h1 q.1), fun k _ _ h3 => a1 T k (fun q => h3 q.2), fun j m _ _ _ _ _ h => a2 j m (by omega) (by omega) (by omega), fun _ _ _ => rfl, fun j k h => a3 j k (fun q => h ⟨q.1, by omega⟩), fun j m h1 _ => a4 j m (by omega) (by omega)⟩
section TN
variable {I A : Nat → Nat → Int32} {L : Nat → Nat → Int64} {J R : Nat → Nat → Int32} {T E p B nv nr kn nn dd tk tn hb z sc hh : Nat} {fb : Nat → Option (Nat × Nat)} {G : Nat → Nat → Nat}
theorem TT_fr {sv : Prop} {ex : Nat → Prop} {I' A' : Nat → Nat → Int32} {L' : Nat → Nat → Int64} {J' R' : Nat → Nat → Int32} (h : TT I A L J R T B nv kn nn sv fb (fun a => ¬ R 345 a = 0) ex) (h1 : I' T 9 = I T 9) (h2 : ∀ j m, T + 2 ≤ j → j ≤ T + 8 → A' j m = A j m) (h3 : ∀ m, A' (B + 1) m = A (B + 1) m) (h4 : ∀ m, L' (T + 1) m = L (T + 1) m) (h5 : J' 318 29 = J 318 29) (h6 : ∀ j m, 338 ≤ j → j ≤ 349 → j ≠ 346 → R' j m = R j m) : TT I' A' L' J' R' T B nv kn nn sv fb (fun a => ¬ R' 345 a = 0) ex := by
  obtain ⟨a, b, c, d, e, f⟩ := h
  have hos : os A' T kn = os A T kn := os_c (fun c _ => h2 _ _ (by omega) (by omega))
  have hfi : ∀ m, fi A' T kn m = fi A T kn m := fun m => by unfold fi; rw [hos]
  refine ⟨by rw [hos]; exact a, by rw [h1]; exact b, by rw [h5]; exact c, d, e, fun n hn => ?_⟩
  rw [hfi n]
  obtain ⟨g1, g2, g3, g4⟩ := f n hn
  refine ⟨TNs_c g1 e (h2 _ _ (by omega) (by omega)) (h4 _) h3 (h6 _ _ (by decide) (by decide) (by decide)) (fun _ _ => h6 _ _ (by decide) (by decide) (by decide)) (h6 _ _ (by decide) (by decide) (by decide)) (h6 _ _ (by decide) (by decide) (by decide)), fun q => ?_, ?_, TNc_c g4 (fun _ => h2 _ _ (by omega) (by omega)) (fun _ => h2 _ _ (by omega) (by omega)) (h2 _ _ (by omega) (by omega)) (fun _ _ => h6 _ _ (by decide) (by decide) (by decide)) (fun _ => h6 _ _ (by decide) (by decide) (by decide)) (fun _ => h6 _ _ (by decide) (by decide) (by decide)) (h6 _ _ (by decide) (by decide) (by decide))⟩
  · have g2 := g2 q
    unfold TNd stg at g2 ⊢
    rw [h2 _ _ (by omega) (by omega), h2 _ _ (by omega) (by omega), h6 343 n (by decide) (by decide) (by decide), h6 344 n (by decide) (by decide) (by decide), h6 345 n (by decide) (by decide) (by decide)]
    exact g2
  · unfold TNr at g3 ⊢
    rw [h2 _ _ (by omega) (by omega), h6 342 n (by decide) (by decide) (by decide)]
    simp only [fun a => h6 345 a (by decide) (by decide) (by decide)]
    exact g3
theorem hc_le (A : Nat → Nat → Int32) : hc A ≤ 5 := by
  unfold hc
  repeat' split
  all_goals omega
theorem hc_up {A' : Nat → Nat → Int32} (hh5 : hh < 5) (h : ∀ m, m ≠ hh → A' 15 m = A 15 m) : hc A' + (if A 15 hh = -1 then 0 else 1) = hc A + (if A' 15 hh = -1 then 0 else 1) := by
  unfold hc
  obtain rfl | rfl | rfl | rfl | rfl : hh = 0 ∨ hh = 1 ∨ hh = 2 ∨ hh = 3 ∨ hh = 4 := by omega
  · rw [h 1 (by decide), h 2 (by decide), h 3 (by decide), h 4 (by decide)]; omega
  · rw [h 0 (by decide), h 2 (by decide), h 3 (by decide), h 4 (by decide)]; omega
  · rw [h 0 (by decide), h 1 (by decide), h 3 (by decide), h 4 (by decide)]; omega
  · rw [h 0 (by decide), h 1 (by decide), h 2 (by decide), h 4 (by decide)]; omega
  · rw [h 0 (by decide), h 1 (by decide), h 2 (by decide), h 3 (by decide)]; omega
theorem tegd (hE : TeAt E) : (E < 318 ∧ kd E = 4) ∧ (E + 1 < 318 ∧ kd (E + 1) = 8) ∧ (E + 3 < 318 ∧ kd (E + 3) = 8) ∧ (E + 4 < 318 ∧ kd (E + 4) = 8) ∧ (E + 5 < 318 ∧ kd (E + 5) = 8) ∧ ln (E + 1) = 5 ∧ ln (E + 3) = 5 ∧ ln (E + 4) = 5 ∧ ln (E + 5) = 5 := by
  obtain ⟨h, h0, h1, h2, h3, h4, h5, l1, l2, l3, l4, l5⟩ := te_o hE
  exact ⟨⟨by omega, h0⟩, ⟨by omega, h1⟩, ⟨by omega, h3⟩, ⟨by omega, h4⟩, ⟨by omega, h5⟩, l1, l3, l4, l5⟩
/-- a turn of a helper that has no node -/
theorem t_pick (h : TSv I G A L J R T E p B nv nr kn nn dd tk tn hb z sc fb) (hh5 : hh < 5) (hno : A 15 hh = -1) (hb30 : hb < 1073741824) : ∃ A' R', f_X3_pick I G A L (nI hh) = some A' ∧ f_X7_turnOf J R (nI p) (nI hh) = some (J, R') ∧ TSv I G A' L J R' T E p B nv nr kn nn dd tk tn (hb + 1) z sc fb ∧ XT T E I A L J R I A' L J R' := by
  obtain ⟨⟨hT, hG, hPr, hmt, hX, hF, hd1, hd2, ht1, ht2, hw⟩, hE, hGT, hGE, hkn, hhc, hH, hTe, hlim, htn1, htn2, hT46, ht250⟩ := h
  have hT58 := (tr_o hT).1
  have hT22 : 22 ≤ T := by rcases hT with h | h | h <;> omega
  have hE14 := (te_o hE).1
  have hE2 : 2 ≤ E := by rcases hE with h | h <;> omega
  have hB58 := pr_ge (tp_at hPr)
  have hlT := (tr_l hT).2.2.2.2.2.2.2.2.2.2.2
  have hnn := tt_nn hT hX
  have hknl := hX.2.2.2.1
  obtain ⟨g0, g1, g2, g3, g4, g5, g6, g7, g8, g9, g10, g11⟩ := tgd hT
  obtain ⟨k0, k1, k3, k4, k5, l1, l3, l4, l5⟩ := tegd hE
  have hR337 : R 337 hh = -9 := by
    rcases (hH hh hh5).1 with ⟨_, q⟩ | ⟨n, n1, n2, _⟩
    · exact q
    · rw [n2] at hno
      have hc := (fi_mem (A := A) (T := T) (kn := kn) (n := n) (by rw [hX.1]; exact n1)).1
      exact absurd hno (t_m1 (by omega))
  have hsc := r_free_L (J := J) (R := R) (nn := nn) (a2 := nI hh) (k21 := fun (v22 : Int32) => if v22 = (-9) then (some (J, up2 R 332 hh (R 332 hh + 1))) else (if ((J 318 30) - (J 318 31)) < 30 then (gd (inr v22 2000) <| some (J, up2 (up2 (up2 R 337 hh v22) 343 v22.toNatClampNeg (nI hh)) 336 hh ((up2 (up2 R 337 hh v22) 343 v22.toNatClampNeg (nI hh)) 336 hh + 1))) else some (J, up2 R 332 hh (R 332 hh + 1)))) (by omega) hX.2.2.1 nn 0 FU none (by omega) (t_fu _ (by omega)) (fun j hj => by cases hj)
  have hrf : f_X7_turnOf J R (nI p) (nI hh) = (if enc (-9) (nxf R nn) = (-9) then (some (J, up2 R 332 hh (R 332 hh + 1))) else (if ((J 318 30) - (J 318 31)) < 30 then (gd (inr (enc (-9) (nxf R nn)) 2000) <| some (J, up2 (up2 (up2 R 337 hh (enc (-9) (nxf R nn))) 343 (enc (-9) (nxf R nn)).toNatClampNeg (nI hh)) 336 hh ((up2 (up2 R 337 hh (enc (-9) (nxf R nn))) 343 (enc (-9) (nxf R nn)).toNatClampNeg (nI hh)) 336 hh + 1))) else some (J, up2 R 332 hh (R 332 hh + 1)))) := by
    simp (disch := omega) only [f_X7_turnOf, gd_in, t_cl, hR337, if_true, bd]
    exact hsc
  have hnf := t_nxf hX trivial hT
  -- an idle turn
  have hidle : ∃ A' R', (some (up2 A (E + 4) hh (A (E + 4) hh + 1)) : Option (Nat → Nat → Int32)) = some A' ∧ (some (J, up2 R 332 hh (R 332 hh + 1)) : Option ((Nat → Nat → Int32) × (Nat → Nat → Int32))) = some (J, R') ∧ TSv I G A' L J R' T E p B nv nr kn nn dd tk tn (hb + 1) z sc fb ∧ XT T E I A L J R I A' L J R' := by
    have hA : ∀ j m, j ≠ E + 4 → up2 A (E + 4) hh (A (E + 4) hh + 1) j m = A j m := fun j m q => up2_j q
    have hR : ∀ j m, j ≠ 332 → up2 R 332 hh (R 332 hh + 1) j m = R j m := fun j m q => up2_j q
    have hfi : fi (up2 A (E + 4) hh (A (E + 4) hh + 1)) T kn = fi A T kn := by funext m; unfold fi; rw [os_c (A := A) (fun c _ => hA _ _ (by omega))]
    refine ⟨_, _, rfl, rfl, ⟨⟨hT, hG, TPr_of hPr (fun _ _ _ _ => rfl) (fun j k h1 h2 => hA j k (by omega)) (fun j k h1 h2 => hR j k (by omega)), hmt, TT_fr hX rfl (fun j m h1 h2 => hA j m (by omega)) (fun m => hA _ _ (by omega)) (fun _ => rfl) rfl (fun j m h1 h2 h3 => hR j m (by omega)), FC_c hF (fun m => hA _ _ (by omega)) (fun n _ => hR _ _ (by decide)) (fun n _ => hR _ _ (by decide)), hd1, hd2, ht1, ht2, fun i hi => ?_⟩, hE, hGT, hGE, hkn, ?_, fun x hx => ?_, ?_, hlim, htn1, htn2, hT46, ht250⟩, ⟨fun _ _ _ _ _ => rfl, fun _ _ _ _ => rfl, fun j m h1 h2 h3 h4 h5 h6 => hA j m h4, fun _ _ _ => rfl, fun _ _ _ => rfl, fun j m h1 h2 => hR j m (by omega)⟩⟩
    · rw [hfi, hA _ _ (by omega), hR _ _ (by decide)]
      obtain ⟨m, m1, m2, m3, m4⟩ := hw i hi
      exact ⟨m, m1, m2, by rw [hR _ _ (by decide)]; exact m3, m4⟩
    · have e : hc (up2 A (E + 4) hh (A (E + 4) hh + 1)) = hc A := by
        unfold hc; simp only [hA 15 _ (by omega)]
      omega
    · obtain ⟨c1, ⟨q, f, c2, c3, c4, c5, c6, c7, c8⟩, c9, c10, c11⟩ := hH x hx
      unfold THo THa THt
      rw [hfi, hA 15 x (by omega), hA 16 x (by omega), hA (E + 1) x (by omega), hA (E + 3) x (by omega), hA (E + 5) x (by omega), hR 337 x (by decide), hR 336 x (by decide), hR 335 x (by decide), hR 334 x (by decide), hR 333 x (by decide)]
      refine ⟨?_, ⟨q, f, by omega, c3, c4, c5, c6, c7, c8⟩, c9, ?_, c11⟩
      · rcases c1 with c1 | ⟨n, n1, n2, n3, n4, n5⟩
        · exact Or.inl c1
        · exact Or.inr ⟨n, n1, n2, n3, by rw [hR _ _ (by decide)]; exact n4, by rw [hR _ _ (by decide)]; exact n5⟩
      · by_cases hxh : x = hh
        · subst hxh; rw [up2_s, up2_s, c10]
        · rw [up2_k hxh, up2_k hxh]; exact c10
    · obtain ⟨c1, c2, c3, c4, c5, c6, c7, c8⟩ := hTe
      exact ⟨c1, c2, c3, c4, c5, c6, c7, fun i hi => by rw [hA _ _ (by omega), hR _ _ (by decide)]; exact c8 i hi⟩
  by_cases h30 : nI dd - nI tk < 30
  · cases hnx : nxf R nn with
    | none =>
      have hcl : f_X3_pick I G A L (nI hh) = some (up2 A (E + 4) hh (A (E + 4) hh + 1)) := by
        simp (disch := omega) only [f_X3_pick, hGT, hGE, gd_t g0, bd, hd1, ht1, if_pos h30, if_true, hnf, hnx, Option.bind_some, Option.map_none, enc, gd_t k0, gd_t k4, l4, gd_in, t_cl]
      rw [hcl, hrf, hnx, if_pos (show enc (-9) none = -9 from rfl)]
      exact hidle
    | some n =>
      obtain ⟨o1, o2⟩ := nxf_o hnx
      obtain ⟨s1, s2, s3, s4⟩ := hX.2.2.2.2.2 n o1
      have s2 := s2 (fun q => q)
      have hn44 : R 344 n = 0 := s2.2.1.resolve_right (fun r => (s2.2.2.2.2 trivial).2 r |>.1 o2)
      have hn45 : R 345 n = 0 := s2.2.2.1.resolve_right (fun r => by have := s2.2.2.2.1 r; rw [hn44] at this; exact absurd this z01)
      have hc0 := (fi_mem (A := A) (T := T) (kn := kn) (n := n) (by rw [hX.1]; exact o1)).1
      obtain ⟨i1, i2, i3, i4, i5, i6, i7, i8⟩ := ti hT (show fi A T kn n < lT T by omega)
      obtain ⟨A', eA⟩ : ∃ z, z = up2 (up2 (up2 A (T + 5) (fi A T kn n) 1) 15 hh (nI (fi A T kn n))) 16 hh (A 16 hh + 1) := ⟨_, rfl⟩
      obtain ⟨R', eR⟩ : ∃ z, z = up2 (up2 (up2 R 337 hh (nI n)) 343 n (nI hh)) 336 hh (R 336 hh + 1) := ⟨_, rfl⟩
      have hcl : f_X3_pick I G A L (nI hh) = some A' := by
        simp (disch := omega) only [f_X3_pick, hGT, hGE, gd_t g0, bd, hd1, ht1, if_pos h30, if_true, hnf, hnx, Option.bind_some, Option.map_some, enc, if_neg (t_m1 (show fi A T kn n < 2147483648 by omega)), gd_t g5, gd_t i5, t_cl, gd_in, nb_1]
        rw [eA, up2_j (show (16 : Nat) ≠ 15 by decide), up2_j (show 16 ≠ T + 5 by omega)]
      have hrf2 : f_X7_turnOf J R (nI p) (nI hh) = some (J, R') := by
        rw [hrf, hnx]
        simp (disch := omega) only [enc, t_m9, if_false, hd2, ht2, h30, if_true, gd_in, t_cl]
        rw [eR, up2_j (show (336 : Nat) ≠ 343 by decide), up2_j (show (336 : Nat) ≠ 337 by decide)]
      have hA : ∀ j m, j ≠ T + 5 → j ≠ 15 → j ≠ 16 → A' j m = A j m := fun j m q1 q2 q3 => by rw [eA, up2_j q3, up2_j q2, up2_j q1]
      have hA5 : ∀ m, m ≠ fi A T kn n → A' (T + 5) m = A (T + 5) m := fun m q => by rw [eA, up2_j (by omega), up2_j (by omega), up2_k q]
      have hA5' : A' (T + 5) (fi A T kn n) = 1 := by rw [eA, up2_j (by omega), up2_j (by omega), up2_s]
      have hA15 : ∀ m, m ≠ hh → A' 15 m = A 15 m := fun m q => by rw [eA, up2_j (by decide), up2_k q, up2_j (by omega)]
      have hA15' : A' 15 hh = nI (fi A T kn n) := by rw [eA, up2_j (by decide), up2_s]
      have hA16 : ∀ m, m ≠ hh → A' 16 m = A 16 m := fun m q => by rw [eA, up2_k q, up2_j (by decide), up2_j (by omega)]
      have hA16' : A' 16 hh = A 16 hh + 1 := by rw [eA, up2_s]
      have hR : ∀ j m, j ≠ 337 → j ≠ 343 → j ≠ 336 → R' j m = R j m := fun j m q1 q2 q3 => by rw [eR, up2_j q3, up2_j q2, up2_j q1]
      have hR43 : ∀ m, m ≠ n → R' 343 m = R 343 m := fun m q => by rw [eR, up2_j (by decide), up2_k q, up2_j (by decide)]
      have hR43' : R' 343 n = nI hh := by rw [eR, up2_j (by decide), up2_s]
      have hR37 : ∀ m, m ≠ hh → R' 337 m = R 337 m := fun m q => by rw [eR, up2_j (by decide), up2_j (by decide), up2_k q]
      have hR37' : R' 337 hh = nI n := by rw [eR, up2_j (by decide), up2_j (by decide), up2_s]
      have hR36 : ∀ m, m ≠ hh → R' 336 m = R 336 m := fun m q => by rw [eR, up2_k q, up2_j (by decide), up2_j (by decide)]
      have hR36' : R' 336 hh = R 336 hh + 1 := by rw [eR, up2_s]
      have hos : os A' T kn = os A T kn := os_c (fun c _ => hA _ _ (by omega) (by omega) (by omega))
      have hfi : fi A' T kn = fi A T kn := by funext m; unfold fi; rw [hos]
      have hXX : TT I A' L J R' T B nv kn nn True fb (fun a => ¬ R' 345 a = 0) (fun _ => False) := by
        obtain ⟨a, b, c, d, e, f⟩ := hX
        refine ⟨by rw [hos]; exact a, b, c, d, e, fun m hm => ?_⟩
        rw [hfi]
        obtain ⟨t1, t2, t3, t4⟩ := f m hm
        refine ⟨TNs_c t1 e (hA _ _ (by omega) (by omega) (by omega)) rfl (fun _ => hA _ _ (by omega) (by omega) (by omega)) (hR _ _ (by decide) (by decide) (by decide)) (fun _ _ => hR _ _ (by decide) (by decide) (by decide)) (hR _ _ (by decide) (by decide) (by decide)) (hR _ _ (by decide) (by decide) (by decide)), fun q => ?_, ?_, TNc_c t4 (fun _ => hA _ _ (by omega) (by omega) (by omega)) (fun _ => hA _ _ (by omega) (by omega) (by omega)) (hA _ _ (by omega) (by omega) (by omega)) (fun _ _ => hR _ _ (by decide) (by decide) (by decide)) (fun _ => hR _ _ (by decide) (by decide) (by decide)) (fun _ => hR _ _ (by decide) (by decide) (by decide)) (hR _ _ (by decide) (by decide) (by decide))⟩
        · by_cases hmn : m = n
          · subst hmn
            unfold TNd stg
            rw [hA5', hR43', hR 344 m (by decide) (by decide) (by decide), hR 345 m (by decide) (by decide) (by decide), hn44, hn45, if_pos rfl, if_pos rfl, if_neg (t_m9 (by omega))]
            exact ⟨rfl, Or.inl rfl, Or.inl rfl, fun q => absurd q z01, fun _ => ⟨Or.inr ⟨hh, hh5, rfl⟩, fun q => absurd q z01⟩⟩
          · have hcn : fi A T kn m ≠ fi A T kn n := fun q => hmn (fi_inj (A := A) (T := T) (kn := kn) (by rw [a]; exact hm) (by rw [a]; exact o1) q)
            have t2 := t2 (fun q => q)
            unfold TNd stg at t2 ⊢
            rw [hA5 _ hcn, hA (T + 6) _ (by omega) (by omega) (by omega), hR43 m hmn, hR 344 m (by decide) (by decide) (by decide), hR 345 m (by decide) (by decide) (by decide)]
            exact t2
        · unfold TNr at t3 ⊢
          rw [hA _ _ (by omega) (by omega) (by omega), hR 342 m (by decide) (by decide) (by decide)]
          simp only [fun a => hR 345 a (by decide) (by decide) (by decide)]
          exact t3
      refine ⟨A', R', hcl, hrf2, ⟨⟨hT, hG, TPr_of hPr (fun _ _ _ _ => rfl) (fun j k h1 h2 => hA j k (by omega) (by omega) (by omega)) (fun j k h1 h2 => hR j k (by omega) (by omega) (by omega)), hmt, hXX, FC_c hF (fun m => hA _ _ (by omega) (by omega) (by omega)) (fun n _ => hR _ _ (by decide) (by decide) (by decide)) (fun n _ => hR _ _ (by decide) (by decide) (by decide)), hd1, hd2, ht1, ht2, fun i hi => ?_⟩, hE, hGT, hGE, hkn, ?_, fun x hx => ?_, ?_, hlim, htn1, htn2, hT46, ht250⟩, ⟨fun _ _ _ _ _ => rfl, fun _ _ _ _ => rfl, fun j m h1 h2 h3 h4 h5 h6 => hA j m (by omega) h1 h2, fun _ _ _ => rfl, fun _ _ _ => rfl, fun j m h1 h2 => hR j m (by omega) (by omega) (by omega)⟩⟩
      · rw [hfi, hA _ _ (by omega) (by omega) (by omega), hR _ _ (by decide) (by decide) (by decide)]
        obtain ⟨m, m1, m2, m3, m4⟩ := hw i hi
        exact ⟨m, m1, m2, by rw [hR _ _ (by decide) (by decide) (by decide)]; exact m3, m4⟩
      · have e := hc_up (A := A) (A' := A') hh5 hA15
        have e5 := hc_le A'
        rw [if_pos hno, hA15', if_neg (t_m1 (by omega))] at e
        have hdt : dd < tk + 30 := by
          rcases Nat.lt_or_ge dd tk with r | r
          · omega
          · have e1 : nI dd - nI tk = nI (dd - tk) := by
              have : nI dd = nI (dd - tk) + nI tk := by rw [nI_add, Nat.sub_add_cancel r]
              rw [this, Int32.add_sub_cancel]
            have hd4 : dd ≤ tk + 34 := by omega
            rw [e1] at h30
            have := (t_lt (a := dd - tk) (b := 30) (by omega) (by omega)).mp h30
            omega
        omega
      · obtain ⟨c1, ⟨q, f, c2, c3, c4, c5, c6, c7, c8⟩, c9, c10, c11⟩ := hH x hx
        unfold THo THa THt
        rw [hfi, hA (E + 1) x (by omega) (by omega) (by omega), hA (E + 3) x (by omega) (by omega) (by omega), hA (E + 4) x (by omega) (by omega) (by omega), hA (E + 5) x (by omega) (by omega) (by omega), hR 335 x (by decide) (by decide) (by decide), hR 334 x (by decide) (by decide) (by decide), hR 333 x (by decide) (by decide) (by decide), hR 332 x (by decide) (by decide) (by decide)]
        by_cases hxh : x = hh
        · subst hxh
          rw [hA15', hA16', hR37', hR36']
          refine ⟨Or.inr ⟨n, o1, rfl, rfl, hR43', by rw [hR _ _ (by decide) (by decide) (by decide)]; exact hn44⟩, ⟨q + 1, f, by omega, by rw [c3, nI_1], by rw [c4, nI_1], fun _ => by omega, c6, c7, ?_⟩, c9, c10, c11⟩
          rcases c8 with c8 | ⟨c8, c8'⟩
          · exact Or.inl c8
          · exact Or.inr ⟨c8, Or.inl (by omega)⟩
        · rw [hA15 x hxh, hA16 x hxh, hR37 x hxh, hR36 x hxh]
          refine ⟨?_, ⟨q, f, by omega, c3, c4, c5, c6, c7, c8⟩, c9, c10, c11⟩
          rcases c1 with c1 | ⟨m, n1, n2, n3, n4, n5⟩
          · exact Or.inl c1
          · have hmn : m ≠ n := fun e => by rw [e, o2] at n4; exact absurd n4.symm (t_m9 (by omega))
            exact Or.inr ⟨m, n1, n2, n3, by rw [hR43 m hmn]; exact n4, by rw [hR _ _ (by decide) (by decide) (by decide)]; exact n5⟩
      · obtain ⟨c1, c2, c3, c4, c5, c6, c7, c8⟩ := hTe
        exact ⟨c1, c2, c3, c4, c5, c6, c7, fun i hi => by rw [hA _ _ (by omega) (by omega) (by omega), hR _ _ (by decide) (by decide) (by decide)]; exact c8 i hi⟩
  · have hcl : f_X3_pick I G A L (nI hh) = some (up2 A (E + 4) hh (A (E + 4) hh + 1)) := by
      simp (disch := omega) only [f_X3_pick, hGT, hGE, gd_t g0, bd, hd1, ht1, if_neg h30, z10, if_false, if_true, gd_t k0, gd_t k4, l4, gd_in, t_cl]
    rw [hcl, hrf, hd2, ht2, if_neg h30]
    by_cases q : enc (-9) (nxf R nn) = -9
    · rw [if_pos q]; exact hidle
    · rw [if_neg q]; exact hidle
end TN

/-! part 74.turn2 -/
/-! THE TIE: turns of helpers that have a node -/
section TM
variable {I A : Nat → Nat → Int32} {L : Nat → Nat → Int64} {J R : Nat → Nat → Int32} {T E p B nv nr kn nn dd tk tn hb z sc hh n0 : Nat} {sv : Prop} {fb : Nat → Option (Nat × Nat)} {tkp : Nat → Prop} {G : Nat → Nat → Nat}
theorem TT_mk (h : TT I A L J R T B nv kn nn sv fb (fun a => a ≠ n0 ∧ tkp a) (fun n => n = n0)) (hT : TrAt T) (hd : n0 < nn → TNd A R T sv n0 (fi A T kn n0)) (ht : ∀ a, a < nn → fb a ≠ none → ((a ≠ n0 ∧ tkp a) ↔ ¬ R 345 a = 0)) : TT I A L J R T B nv kn nn sv fb (fun a => ¬ R 345 a = 0) (fun _ => False) := by
  have hnn := (tt_nn hT h).2
  obtain ⟨a, b, c, d, e, f⟩ := h
  refine ⟨a, b, c, d, e, fun n hn => ?_⟩
  obtain ⟨g1, g2, g3, g4⟩ := f n hn
  refine ⟨g1, fun _ => ?_, ?_, g4⟩
  · by_cases q : n = n0
    · subst q; exact hd hn
    · exact g2 q
  · rcases g3 with q | ⟨x, hx, q1, q2⟩
    · exact Or.inl q
    · have hne : fb x ≠ none := fun q => by
        rcases (f x (by omega)).2.2.2 with ⟨_, _, _, r⟩ | ⟨f', k', r, _⟩
        · exact r n hn q1
        · rw [q] at r; cases r
      refine Or.inr ⟨x, hx, q1, ?_⟩
      rcases q2 with ⟨q2, q3⟩ | ⟨q2, q3⟩
      · exact Or.inl ⟨(ht x (by omega) hne).mp q2, q3⟩
      · exact Or.inr ⟨fun r => q2 ((ht x (by omega) hne).mpr r), q3⟩
/-- it fails -/
theorem t_repl (h : TSv I G A L J R T E p B nv nr kn nn dd tk tn hb z sc fb) (hh5 : hh < 5) (hhas : ¬ A 15 hh = -1) (hfl : A 16 hh = A (E + 1) hh) (hb30 : hb < 1073741824) : ∃ A' R', f_X3_replace G A (nI hh) = some A' ∧ f_X7_turnOf J R (nI p) (nI hh) = some (J, R') ∧ TSv I G A' L J R' T E p B nv nr kn nn dd tk tn (hb + 1) z sc fb ∧ XT T E I A L J R I A' L J R' := by
  obtain ⟨⟨hT, hG, hPr, hmt, hX, hF, hd1, hd2, ht1, ht2, hw⟩, hE, hGT, hGE, hkn, hhc, hH, hTe, hlim, htn1, htn2, hT46, ht250⟩ := h
  have hT58 := (tr_o hT).1
  have hT22 : 22 ≤ T := by rcases hT with h | h | h <;> omega
  have hE14 := (te_o hE).1
  have hE2 : 2 ≤ E := by rcases hE with h | h <;> omega
  have hB58 := pr_ge (tp_at hPr)
  have hlT := (tr_l hT).2.2.2.2.2.2.2.2.2.2.2
  have hnn := tt_nn hT hX
  have hknl := hX.2.2.2.1
  obtain ⟨g0, g1, g2, g3, g4, g5, g6, g7, g8, g9, g10, g11⟩ := tgd hT
  obtain ⟨k0, k1, k3, k4, k5, l1, l3, l4, l5⟩ := tegd hE
  obtain ⟨n, n1, n2, n3, n4, n5⟩ := (hH hh hh5).1.resolve_left (fun q => hhas q.1)
  obtain ⟨⟨q, f, c2, c3, c4, c5, c6, c7, c8⟩, c9, c10, c11⟩ := (hH hh hh5).2
  have hq1 := c5 hhas
  have hqf : q = f := by rw [c3, c7, t_eq (by omega) (by omega)] at hfl; exact hfl
  have hR335 : R 335 hh = nI q := by
    rcases c8 with c8 | ⟨_, c8 | ⟨c8, _⟩⟩
    · rw [c8, hqf]
    · omega
    · exact absurd c8 hhas
  obtain ⟨s1, s2, s3, s4⟩ := hX.2.2.2.2.2 n n1
  have s2 := s2 (fun q => q)
  have hn45 : R 345 n = 0 := s2.2.2.1.resolve_right (fun r => by have := s2.2.2.2.1 r; rw [n5] at this; exact absurd this z01)
  have hc0 := (fi_mem (A := A) (T := T) (kn := kn) (n := n) (by rw [hX.1]; exact n1)).1
  obtain ⟨i1, i2, i3, i4, i5, i6, i7, i8⟩ := ti hT (show fi A T kn n < lT T by omega)
  obtain ⟨A', eA⟩ : ∃ z, z = up2 (up2 (up2 A (T + 5) (fi A T kn n) 0) 15 hh (-1)) (E + 5) hh (A (E + 5) hh + 1) := ⟨_, rfl⟩
  obtain ⟨R', eR⟩ : ∃ z, z = up2 (up2 (up2 (up2 R 337 hh (-9)) 343 n (-9)) 335 hh 0) 333 hh (R 333 hh + 1) := ⟨_, rfl⟩
  have hcl : f_X3_replace G A (nI hh) = some A' := by
    simp (disch := omega) only [f_X3_replace, hGT, hGE, gd_t g0, bd, gd_in, t_cl, gd_t g5, n2, gd_t i5, gd_t k0, gd_t k5, l5, nb_0]
    rw [eA, up2_j (show E + 5 ≠ 15 by omega), up2_j (show E + 5 ≠ T + 5 by omega)]
  have hrf : f_X7_turnOf J R (nI p) (nI hh) = some (J, R') := by
    have e1 : up2 R 337 hh (-9) 335 hh = nI q := by rw [up2_j (by decide)]; exact hR335
    have e2 : up2 R 337 hh (-9) 336 hh = nI q := by rw [up2_j (by decide)]; exact c4
    have hpos : (0 : Int32) < nI q := nI_lt (a := 0) (by omega) (by omega)
    simp (disch := omega) only [f_X7_turnOf, gd_in, t_cl, n3, t_m9, if_false, bd, e1, e2, if_pos hpos, if_true]
    rw [eR, up2_j (show (333 : Nat) ≠ 335 by decide), up2_j (show (333 : Nat) ≠ 343 by decide), up2_j (show (333 : Nat) ≠ 337 by decide)]
  have hA : ∀ j m, j ≠ T + 5 → j ≠ 15 → j ≠ E + 5 → A' j m = A j m := fun j m q1 q2 q3 => by rw [eA, up2_j q3, up2_j q2, up2_j q1]
  have hA5 : ∀ m, m ≠ fi A T kn n → A' (T + 5) m = A (T + 5) m := fun m q => by rw [eA, up2_j (by omega), up2_j (by omega), up2_k q]
  have hA5' : A' (T + 5) (fi A T kn n) = 0 := by rw [eA, up2_j (by omega), up2_j (by omega), up2_s]
  have hA15 : ∀ m, m ≠ hh → A' 15 m = A 15 m := fun m q => by rw [eA, up2_j (by omega), up2_k q, up2_j (by omega)]
  have hA15' : A' 15 hh = -1 := by rw [eA, up2_j (by omega), up2_s]
  have hE5 : ∀ m, m ≠ hh → A' (E + 5) m = A (E + 5) m := fun m q => by rw [eA, up2_k q, up2_j (by omega), up2_j (by omega)]
  have hE5' : A' (E + 5) hh = A (E + 5) hh + 1 := by rw [eA, up2_s]
  have hR : ∀ j m, j ≠ 337 → j ≠ 343 → j ≠ 335 → j ≠ 333 → R' j m = R j m := fun j m q1 q2 q3 q4 => by rw [eR, up2_j q4, up2_j q3, up2_j q2, up2_j q1]
  have hR43 : ∀ m, m ≠ n → R' 343 m = R 343 m := fun m q => by rw [eR, up2_j (by decide), up2_j (by decide), up2_k q, up2_j (by decide)]
  have hR43' : R' 343 n = -9 := by rw [eR, up2_j (by decide), up2_j (by decide), up2_s]
  have hR37 : ∀ m, m ≠ hh → R' 337 m = R 337 m := fun m q => by rw [eR, up2_j (by decide), up2_j (by decide), up2_j (by decide), up2_k q]
  have hR37' : R' 337 hh = -9 := by rw [eR, up2_j (by decide), up2_j (by decide), up2_j (by decide), up2_s]
  have hR35 : ∀ m, m ≠ hh → R' 335 m = R 335 m := fun m q => by rw [eR, up2_j (by decide), up2_k q, up2_j (by decide), up2_j (by decide)]
  have hR35' : R' 335 hh = 0 := by rw [eR, up2_j (by decide), up2_s]
  have hR33 : ∀ m, m ≠ hh → R' 333 m = R 333 m := fun m q => by rw [eR, up2_k q, up2_j (by decide), up2_j (by decide), up2_j (by decide)]
  have hR33' : R' 333 hh = R 333 hh + 1 := by rw [eR, up2_s]
  have hos : os A' T kn = os A T kn := os_c (fun c _ => hA _ _ (by omega) (by omega) (by omega))
  have hfi : fi A' T kn = fi A T kn := by funext m; unfold fi; rw [hos]
  have hXX : TT I A' L J R' T B nv kn nn True fb (fun a => ¬ R' 345 a = 0) (fun _ => False) := by
    obtain ⟨a, b, c, d, e, f⟩ := hX
    refine ⟨by rw [hos]; exact a, b, c, d, e, fun m hm => ?_⟩
    rw [hfi]
    obtain ⟨t1, t2, t3, t4⟩ := f m hm
    refine ⟨TNs_c t1 e (hA _ _ (by omega) (by omega) (by omega)) rfl (fun _ => hA _ _ (by omega) (by omega) (by omega)) (hR _ _ (by decide) (by decide) (by decide) (by decide)) (fun _ _ => hR _ _ (by decide) (by decide) (by decide) (by decide)) (hR _ _ (by decide) (by decide) (by decide) (by decide)) (hR _ _ (by decide) (by decide) (by decide) (by decide)), fun q => ?_, ?_, TNc_c t4 (fun _ => hA _ _ (by omega) (by omega) (by omega)) (fun _ => hA _ _ (by omega) (by omega) (by omega)) (hA _ _ (by omega) (by omega) (by omega)) (fun _ _ => hR _ _ (by decide) (by decide) (by decide) (by decide)) (fun _ => hR _ _ (by decide) (by decide) (by decide) (by decide)) (fun _ => hR _ _ (by decide) (by decide) (by decide) (by decide)) (hR _ _ (by decide) (by decide) (by decide) (by decide))⟩
    · by_cases hmn : m = n
      · subst hmn
        unfold TNd stg
        rw [hA5', hR43', hR 344 m (by decide) (by decide) (by decide) (by decide), hR 345 m (by decide) (by decide) (by decide) (by decide), n5, hn45, if_pos rfl, if_pos rfl, if_pos rfl]
        exact ⟨rfl, Or.inl rfl, Or.inl rfl, fun q => absurd q z01, fun _ => ⟨Or.inl rfl, fun q => absurd q z01⟩⟩
      · have hcn : fi A T kn m ≠ fi A T kn n := fun q => hmn (fi_inj (A := A) (T := T) (kn := kn) (by rw [a]; exact hm) (by rw [a]; exact n1) q)
        have t2 := t2 (fun q => q)
        unfold TNd stg at t2 ⊢
        rw [hA5 _ hcn, hA (T + 6) _ (by omega) (by omega) (by omega), hR43 m hmn, hR 344 m (by decide) (by decide) (by decide) (by decide), hR 345 m (by decide) (by decide) (by decide) (by decide)]
        exact t2
    · unfold TNr at t3 ⊢
      rw [hA _ _ (by omega) (by omega) (by omega), hR 342 m (by decide) (by decide) (by decide) (by decide)]
      simp only [fun a => hR 345 a (by decide) (by decide) (by decide) (by decide)]
      exact t3
  refine ⟨A', R', hcl, hrf, ⟨⟨hT, hG, TPr_of hPr (fun _ _ _ _ => rfl) (fun j k h1 h2 => hA j k (by omega) (by omega) (by omega)) (fun j k h1 h2 => hR j k (by omega) (by omega) (by omega) (by omega)), hmt, hXX, FC_c hF (fun m => hA _ _ (by omega) (by omega) (by omega)) (fun n _ => hR _ _ (by decide) (by decide) (by decide) (by decide)) (fun n _ => hR _ _ (by decide) (by decide) (by decide) (by decide)), hd1, hd2, ht1, ht2, fun i hi => ?_⟩, hE, hGT, hGE, hkn, ?_, fun x hx => ?_, ?_, hlim, htn1, htn2, hT46, ht250⟩, ⟨fun _ _ _ _ _ => rfl, fun _ _ _ _ => rfl, fun j m h1 h2 h3 h4 h5 h6 => hA j m (by omega) h1 h5, fun _ _ _ => rfl, fun _ _ _ => rfl, fun j m h1 h2 => hR j m (by omega) (by omega) (by omega) (by omega)⟩⟩
  · rw [hfi, hA _ _ (by omega) (by omega) (by omega), hR _ _ (by decide) (by decide) (by decide) (by decide)]
    obtain ⟨m, m1, m2, m3, m4⟩ := hw i hi
    exact ⟨m, m1, m2, by rw [hR _ _ (by decide) (by decide) (by decide) (by decide)]; exact m3, m4⟩
  · have e := hc_up (A := A) (A' := A') hh5 hA15
    rw [hA15', if_neg hhas, if_pos rfl] at e
    omega
  · obtain ⟨x1, ⟨xq, xf, x2, x3, x4, x5, x6, x7, x8⟩, x9, x10, x11⟩ := hH x hx
    unfold THo THa THt
    rw [hfi, hA 16 x (by omega) (by omega) (by omega), hA (E + 1) x (by omega) (by omega) (by omega), hA (E + 3) x (by omega) (by omega) (by omega), hA (E + 4) x (by omega) (by omega) (by omega), hR 336 x (by decide) (by decide) (by decide) (by decide), hR 334 x (by decide) (by decide) (by decide) (by decide), hR 332 x (by decide) (by decide) (by decide) (by decide)]
    by_cases hxh : x = hh
    · subst hxh
      rw [hA15', hE5', hR37', hR35', hR33', c11]
      refine ⟨Or.inl ⟨rfl, rfl⟩, ⟨q, f, by omega, c3, c4, fun r => absurd rfl r, c6, c7, Or.inr ⟨rfl, Or.inr ⟨rfl, by omega⟩⟩⟩, c9, c10, rfl⟩
    · rw [hA15 x hxh, hE5 x hxh, hR37 x hxh, hR35 x hxh, hR33 x hxh]
      refine ⟨?_, ⟨xq, xf, by omega, x3, x4, x5, x6, x7, x8⟩, x9, x10, x11⟩
      rcases x1 with x1 | ⟨m, m1, m2, m3, m4, m5⟩
      · exact Or.inl x1
      · have hmn : m ≠ n := fun e => by
          rw [e, n4, t_eq (by omega) (by omega)] at m4
          exact hxh m4.symm
        exact Or.inr ⟨m, m1, m2, m3, by rw [hR43 m hmn]; exact m4, by rw [hR _ _ (by decide) (by decide) (by decide) (by decide)]; exact m5⟩
  · obtain ⟨t1, t2, t3, t4, t5, t6, t7, t8⟩ := hTe
    exact ⟨t1, t2, t3, t4, t5, t6, t7, fun i hi => by rw [hA _ _ (by omega) (by omega) (by omega), hR _ _ (by decide) (by decide) (by decide) (by decide)]; exact t8 i hi⟩
/-- it does its node -/
theorem t_done (h : TSv I G A L J R T E p B nv nr kn nn dd tk tn hb z sc fb) (hh5 : hh < 5) (hhas : ¬ A 15 hh = -1) (hfl : ¬ A 16 hh = A (E + 1) hh) (hb30 : hb < 1073741824) : ∃ I' A' L' J' R' kn' nn' fb', f_X5_finish I G A L T (A 15 hh) (nI hh) = some (I', A', L') ∧ f_X7_turnOf J R (nI p) (nI hh) = some (J', R') ∧ TSv I' G (up2 (up2 A' (E + 3) hh (A' (E + 3) hh + 1)) 15 hh (-1)) L' J' R' T E p B nv nr kn' nn' (dd + 1) tk tn (hb + 1) z sc fb' ∧ XT T E I A L J R I' (up2 (up2 A' (E + 3) hh (A' (E + 3) hh + 1)) 15 hh (-1)) L' J' R' := by
  obtain ⟨⟨hT, hG, hPr, hmt, hX, hF, hd1, hd2, ht1, ht2, hw⟩, hE, hGT, hGE, hkn, hhc, hH, hTe, hlim, htn1, htn2, hT46, ht250⟩ := h
  have hT58 := (tr_o hT).1
  have hT22 : 22 ≤ T := by rcases hT with h | h | h <;> omega
  have hE14 := (te_o hE).1
  have hE2 : 2 ≤ E := by rcases hE with h | h <;> omega
  have hB58 := pr_ge (tp_at hPr)
  have hlT : lT T = 1711 := if_pos hT46
  have hnn := tt_nn hT hX
  have hknl := hX.2.2.2.1
  obtain ⟨n, n1, n2, n3, n4, n5⟩ := (hH hh hh5).1.resolve_left (fun q => hhas q.1)
  obtain ⟨⟨q, f, c2, c3, c4, c5, c6, c7, c8⟩, c9, c10, c11⟩ := (hH hh hh5).2
  have hq1 := c5 hhas
  obtain ⟨s1, s2, s3, s4⟩ := hX.2.2.2.2.2 n n1
  have s2 := s2 (fun q => q)
  have hn45 : R 345 n = 0 := s2.2.2.1.resolve_right (fun r => by have := s2.2.2.2.1 r; rw [n5] at this; exact absurd this z01)
  have hc0 := (fi_mem (A := A) (T := T) (kn := kn) (n := n) (by rw [hX.1]; exact n1)).1
  have hhc1 : 1 ≤ hc A := by
    have : hc A = hc A := rfl
    unfold hc
    obtain rfl | rfl | rfl | rfl | rfl : hh = 0 ∨ hh = 1 ∨ hh = 2 ∨ hh = 3 ∨ hh = 4 := by omega
    all_goals (rw [if_neg hhas]; omega)
  have hf0 : fb n = none := by
    rcases hF.2 n n1 with ⟨r, _⟩ | ⟨f', _, r, _⟩
    · exact r
    · rw [n5] at r; exact absurd r z01
  -- the reference before the opening
  obtain ⟨R5, e5⟩ : ∃ z, z = up2 (up2 R 337 hh (-9)) 334 hh (R 334 hh + 1) := ⟨_, rfl⟩
  have r5 : ∀ j m, j ≠ 337 → j ≠ 334 → R5 j m = R j m := fun j m q1 q2 => by rw [e5, up2_j q2, up2_j q1]
  have r537 : ∀ m, m ≠ hh → R5 337 m = R 337 m := fun m q => by rw [e5, up2_j (by decide), up2_k q]
  have r537' : R5 337 hh = -9 := by rw [e5, up2_j (by decide), up2_s]
  have r534 : ∀ m, m ≠ hh → R5 334 m = R 334 m := fun m q => by rw [e5, up2_k q, up2_j (by decide)]
  have r534' : R5 334 hh = R 334 hh + 1 := by rw [e5, up2_s]
  have hXX : TT I A L J R5 T B nv kn nn True fb (fun a => ¬ R5 345 a = 0) (fun _ => False) := TT_fr hX rfl (fun _ _ _ _ => rfl) (fun _ => rfl) (fun _ => rfl) rfl (fun j m h1 h2 h3 => r5 j m (by omega) (by omega))
  have hPr5 : TPr I A R5 p B nv nr := TPr_of hPr (fun _ _ _ _ => rfl) (fun _ _ _ _ => rfl) (fun j k h1 h2 => r5 j k (by omega) (by omega))
  obtain ⟨I', A', L', J', R', kn', nn', o1, o2, o3, o4, o5, o6, o7, o8, o9, o10, o11, o12, o13, o14, o15⟩ := t_open (h := hh) (dd := dd) hT hG hPr5 hmt (TT_ex (ex' := fun m => m = n) hXX (fun _ q => q.elim)) n1 hf0 hF.1 (by omega) hh5 hd1 hd2
  obtain ⟨x1, x2, x3, x4, x5, x6, x7, x8, x9, x10⟩ := o13
  have hrf : f_X7_turnOf J R (nI p) (nI hh) = some (J', R') := by
    have e1 : up2 R 337 hh (-9) 335 hh = R 335 hh := by rw [up2_j (by decide)]
    have e2 : up2 R 337 hh (-9) 336 hh = nI q := by rw [up2_j (by decide)]; exact c4
    have e3 : up2 R 337 hh (-9) 334 hh = R 334 hh := by rw [up2_j (by decide)]
    simp (disch := omega) only [f_X7_turnOf, gd_in, t_cl, n3, t_m9, if_false, bd, e1, e2, e3]
    rw [← e5, o2, Option.bind_some]
    by_cases hpos : 0 < R 335 hh
    · rw [if_pos hpos]
      have : ¬ nI q = R 335 hh := fun r => by
        rcases c8 with c8 | ⟨c8, _⟩
        · rw [c8] at r; exact hfl (by rw [c3, c7, r])
        · rw [c8] at hpos; exact absurd hpos (by decide)
      rw [if_neg this]
    · rw [if_neg hpos]
  have hB1 : ∀ m, A' (B + 1) m = A (B + 1) m := fun m => x3 _ _ (by omega) (by omega)
  have hTf : TT I' A' L' J' R' T B nv kn' nn' True (fun m => if m = n then (if dn R5 n < nv then some (kn, szo A B (dn R5 n)) else none) else fb m) (fun a => ¬ R' 345 a = 0) (fun _ => False) := by
    have hR45 : R' 345 n = 0 := by rw [x9 345 n (by omega) (by omega) (by omega) n1 (fun q => by omega), r5 _ _ (by decide) (by decide)]; exact hn45
    refine TT_mk o3 hT (fun _ => ?_) (fun a ha hne => ?_)
    · rw [o12 n n1]
      unfold TNd stg
      rw [o4, o5, o6, hR45, x9 343 n (by omega) (by omega) (by omega) n1 (fun q => by omega), r5 _ _ (by decide) (by decide), n4, if_pos rfl, if_neg z10]
      exact ⟨rfl, Or.inr rfl, Or.inl rfl, fun q => absurd q z01, fun _ => ⟨Or.inr ⟨hh, hh5, rfl⟩, fun _ => ⟨t_m9 (by omega), rfl⟩⟩⟩
    · by_cases han : a = n
      · rw [han]
        exact ⟨fun q => absurd rfl q.1, fun q => absurd hR45 q⟩
      · simp only [if_neg han] at hne
        have hann : a < nn := by
          rcases Nat.lt_or_ge a nn with r | r
          · exact r
          · exact absurd (hF.1 a r) hne
        rw [x9 345 a (by omega) (by omega) (by omega) hann (fun q => by omega)]
        exact ⟨fun q => q.2, fun q => ⟨han, q⟩⟩
  -- what is told of the helper
  obtain ⟨A2, eA⟩ : ∃ z, z = up2 (up2 A' (E + 3) hh (A' (E + 3) hh + 1)) 15 hh (-1) := ⟨_, rfl⟩
  refine ⟨I', A', L', J', R', kn', nn', (fun m => if m = n then (if dn R5 n < nv then some (kn, szo A B (dn R5 n)) else none) else fb m), by rw [n2]; exact o1, hrf, ?_⟩
  rw [← eA]
  have hA : ∀ j m, j ≠ E + 3 → j ≠ 15 → A2 j m = A' j m := fun j m q1 q2 => by rw [eA, up2_j q2, up2_j q1]
  have hA15 : ∀ m, m ≠ hh → A2 15 m = A 15 m := fun m q => by rw [eA, up2_k q, up2_j (by omega), x3 _ _ (by omega) (by omega)]
  have hA15' : A2 15 hh = -1 := by rw [eA, up2_s]
  have hE3 : ∀ m, m ≠ hh → A2 (E + 3) m = A (E + 3) m := fun m q => by rw [eA, up2_j (by omega), up2_k q, x3 _ _ (by omega) (by omega)]
  have hE3' : A2 (E + 3) hh = A (E + 3) hh + 1 := by rw [eA, up2_j (by omega), up2_s, x3 _ _ (by omega) (by omega)]
  have hAA : ∀ j m, j ≠ E + 3 → j ≠ 15 → (j < T + 2 ∨ T + 8 < j) → j ≠ T + 10 → A2 j m = A j m := fun j m q1 q2 q3 q4 => (hA j m q1 q2).trans (x3 j m q3 q4)
  have hTf2 : TT I' A2 L' J' R' T B nv kn' nn' True (fun m => if m = n then (if dn R5 n < nv then some (kn, szo A B (dn R5 n)) else none) else fb m) (fun a => ¬ R' 345 a = 0) (fun _ => False) := TT_fr hTf rfl (fun j m h1 h2 => hA j m (by omega) (by omega)) (fun m => hA _ _ (by omega) (by omega)) (fun _ => rfl) rfl (fun _ _ _ _ _ => rfl)
  have hfi : ∀ m, m < nn → fi A2 T kn' m = fi A T kn m := fun m hm => by
    rw [← o12 m hm]; unfold fi; rw [os_c (A := A') (A' := A2) (fun c _ => hA _ _ (by omega) (by omega))]
  have hRo : ∀ j m, (j < 338 ∨ j = 346 ∨ 349 < j) → j ≠ 364 → j ≠ 337 → j ≠ 334 → R' j m = R j m := fun j m q1 q2 q3 q4 => (x8 j m q1 q2).trans (r5 j m q3 q4)
  have hRn : ∀ j m, 338 ≤ j → j ≤ 345 → j ≠ 339 → m < nn → ¬ (j = 344 ∧ m = n) → R' j m = R j m := fun j m q1 q2 q3 q4 q5 => (x9 j m q1 q2 q3 q4 q5).trans (r5 j m (by omega) (by omega))
  refine ⟨⟨⟨hT, hG, TPr_of o14 (fun _ _ _ _ => rfl) (fun j k h1 h2 => hA j k (by omega) (by omega)) (fun _ _ _ _ => rfl), by rw [x2 15 (by decide) (by decide)]; exact hmt, hTf2, ?_, o7, o8, by rw [x2 11 (by decide) (by decide)]; exact ht1, by rw [x7 318 31 (fun q => by omega)]; exact ht2, fun i hi => ?_⟩, hE, hGT, hGE, by omega, ?_, fun x hx => ?_, ?_, ?_, ?_, ?_, hT46, ht250⟩, ?_⟩
  · -- FC
    refine ⟨fun m hm => ?_, fun m hm => ?_⟩
    · simp only [if_neg (show ¬ m = n by omega)]
      exact hF.1 m (by omega)
    · have hsz : ∀ i, szo A2 B i = szo A B i := fun i => by unfold szo; rw [hA _ _ (by omega) (by omega), hB1]
      rw [hsz]
      by_cases hmn : m = n
      · subst hmn
        have ed : dn R' m = dn R5 m := dn_c (x9 338 m (by omega) (by omega) (by omega) n1 (fun q => by omega))
        simp only [if_true, ed, o6]
        by_cases hd : dn R5 m < nv
        · rw [if_pos hd]; exact Or.inr ⟨kn, rfl, trivial, hd⟩
        · rw [if_neg hd]; exact Or.inl ⟨rfl, fun q => hd q.2⟩
      · simp only [if_neg hmn]
        rcases Nat.lt_or_ge m nn with hm1 | hm1
        · rw [hRn 344 m (by omega) (by omega) (by omega) hm1 (fun q => hmn q.2), dn_c (hRn 338 m (by omega) (by omega) (by omega) hm1 (fun q => by omega))]
          exact hF.2 m hm1
        · exact Or.inl ⟨hF.1 m hm1, fun q => by rw [o15 m hm1 hm] at q; exact absurd q.1 z01⟩
  · obtain ⟨m, m1, m2, m3, m4⟩ := hw i hi
    refine ⟨m, by omega, by rw [hRo _ _ (by omega) (by omega) (by omega) (by omega)]; exact m2, by rw [hRn 345 m (by omega) (by omega) (by omega) m1 (fun q => by omega)]; exact m3, by rw [hfi m m1, hAA _ _ (by omega) (by omega) (by omega) (by omega)]; exact m4⟩
  · have e := hc_up (A := A) (A' := A2) hh5 hA15
    rw [hA15', if_neg hhas, if_pos rfl] at e
    omega
  · obtain ⟨y1, ⟨xq, xf, y2, y3, y4, y5, y6, y7, y8⟩, y9, y10, y11⟩ := hH x hx
    unfold THo THa THt
    rw [hAA 16 x (by omega) (by omega) (by omega) (by omega), hAA (E + 1) x (by omega) (by omega) (by omega) (by omega), hAA (E + 4) x (by omega) (by omega) (by omega) (by omega), hAA (E + 5) x (by omega) (by omega) (by omega) (by omega), hRo 336 x (by omega) (by omega) (by omega) (by omega), hRo 335 x (by omega) (by omega) (by omega) (by omega), hRo 333 x (by omega) (by omega) (by omega) (by omega), hRo 332 x (by omega) (by omega) (by omega) (by omega), x8 337 x (by omega) (by omega), x8 334 x (by omega) (by omega)]
    by_cases hxh : x = hh
    · subst hxh
      rw [hA15', hE3', r537', r534', c9]
      refine ⟨Or.inl ⟨rfl, rfl⟩, ⟨q, f, by omega, c3, c4, fun r => absurd rfl r, c6, c7, ?_⟩, rfl, c10, c11⟩
      rcases c8 with c8 | ⟨c8, c8' | ⟨c8', _⟩⟩
      · exact Or.inl c8
      · exact Or.inr ⟨c8, Or.inl c8'⟩
      · exact absurd c8' hhas
    · rw [hA15 x hxh, hE3 x hxh, r537 x hxh, r534 x hxh]
      refine ⟨?_, ⟨xq, xf, by omega, y3, y4, y5, y6, y7, y8⟩, y9, y10, y11⟩
      rcases y1 with y1 | ⟨m, m1, m2, m3, m4, m5⟩
      · exact Or.inl y1
      · have hmn : m ≠ n := fun e => by
          rw [e, n4, t_eq (by omega) (by omega)] at m4
          exact hxh m4.symm
        exact Or.inr ⟨m, by omega, by rw [hfi m m1]; exact m2, m3, by rw [hRn 343 m (by omega) (by omega) (by omega) m1 (fun q => by omega)]; exact m4, by rw [hRn 344 m (by omega) (by omega) (by omega) m1 (fun q => hmn q.2)]; exact m5⟩
  · obtain ⟨t1, t2, t3, t4, t5, t6, t7, t8⟩ := hTe
    exact ⟨by rw [x1 E 0 (by omega) (by omega)]; exact t1, by rw [x7 318 15 (fun q => by omega)]; exact t2, t3, t4, by rw [x1 E 1 (by omega) (by omega)]; exact t5, by rw [x7 318 18 (fun q => by omega)]; exact t6, t7, fun i hi => by rw [hAA _ _ (by omega) (by omega) (by omega) (by omega), hRo 331 i (by omega) (by omega) (by omega) (by omega)]; exact t8 i hi⟩
  · rw [x1 14 2 (by omega) (by omega), x7 318 24 (fun q => by omega)]; exact hlim
  · rw [x1 14 3 (by omega) (by omega)]; exact htn1
  · rw [x7 318 28 (fun q => by omega)]; exact htn2
  · exact ⟨fun j k h1 h2 _ => x1 j k h1 h2, fun k h1 h2 _ => x2 k h1 h2, fun j m h1 h2 h3 h4 h5 h6 => hAA j m h3 h1 (by omega) (by omega), x5, fun j k h => x7 j k (fun q => h ⟨q.1, by omega⟩), fun j m h1 h2 => hRo j m (by omega) h2 (by omega) (by omega)⟩
end TM

/-! part 75.solve -/
/-! THE TIE: whose turn it is; turns one after the other -/
theorem t_rem {a b : Nat} (ha : a < 2147483648) (hb0 : 0 < b) (hb : b < 2147483648) : nI a - nI a / nI b * nI b = nI (a % b) := by
  have hd : nI a / nI b = nI (a / b) := by
    apply Int32.toInt_inj.1
    rw [Int32.toInt_div, nI_toInt (by omega), nI_toInt (by omega), nI_toInt (by have := Nat.div_le_self a b; omega)]
    have e : (a : Int).tdiv b = ((a / b : Nat) : Int) := by
      rw [Int.tdiv_eq_ediv_of_nonneg (by omega)]; rfl
    rw [e]
    have hq := Nat.div_le_self a b
    generalize a / b = q at *
    apply Int.bmod_eq_of_le <;> omega
  rw [hd, tI_mul]
  have e2 : nI a = nI (a % b) + nI (a / b * b) := by
    rw [nI_add]; congr 1; rw [Nat.mul_comm]; exact (Nat.mod_add_div a b).symm
  rw [e2, Int32.add_sub_cancel]
def who (R : Nat → Nat → Int32) (tn sc z : Nat) : Nat := if tn < sc then (if (R 331 tn).toNatClampNeg < z then (R 331 tn).toNatClampNeg else 0) else (tn - sc) % z
section SO
variable {I A : Nat → Nat → Int32} {L : Nat → Nat → Int64} {J R : Nat → Nat → Int32} {T E p B nv nr kn nn dd tk tn hb z sc : Nat} {fb : Nat → Option (Nat × Nat)} {G : Nat → Nat → Nat}
theorem who_5 (h : TTe I A J R E z sc) : who R tn sc z < 5 := by
  obtain ⟨t1, t2, t3, t4, t5, t6, t7, t8⟩ := h
  unfold who
  by_cases h1 : tn < sc
  · rw [if_pos h1]
    split <;> omega
  · rw [if_neg h1]
    have := Nat.mod_lt (tn - sc) (show z > 0 by omega)
    omega
theorem t_who (h : TTe I A J R E z sc) (hE : TeAt E) (htn : tn < 1073741824) : f_X4_whoHasTurn I A E (nI tn) = some (nI (who R tn sc z)) := by
  obtain ⟨t1, t2, t3, t4, t5, t6, t7, t8⟩ := h
  have e1 : (nI tn).toNatClampNeg = tn := t_cl (by omega)
  have e2 : (I E 1).toNatClampNeg = sc := by rw [t5]; exact t_cl (by omega)
  have e3 : (I E 0).toNatClampNeg = z := by rw [t1]; exact t_cl (by omega)
  unfold f_X4_whoHasTurn
  rw [gd_t ⟨hE, by rw [e1], by rw [e1]; omega, by rw [e2]; exact t7, by rw [e3]; exact t3, by rw [e3]; exact t4, by rw [e3]; exact t1, by rw [e2]; exact t5⟩, e1, e2, e3]
  unfold who
  by_cases h1 : tn < sc
  · rw [if_pos h1, if_pos h1]
    obtain ⟨q, x, hx, qx⟩ := t8 tn h1
    rw [q, qx, t_cl (by omega)]
    simp (disch := omega) only [t_lt]
    split <;> rfl
  · rw [if_neg h1, if_neg h1]
theorem TSv_tn (h : TSv I G A L J R T E p B nv nr kn nn dd tk tn hb z sc fb) : TSv (up2 I 14 3 (nI (tn + 1))) G A L (up2 J 318 28 (nI (tn + 1))) R T E p B nv nr kn nn dd tk (tn + 1) hb z sc fb := by
  obtain ⟨⟨hT, hG, hPr, hmt, hX, hF, hd1, hd2, ht1, ht2, hw⟩, hE, hGT, hGE, hkn, hhc, hH, hTe, hlim, htn1, htn2, hT46, ht250⟩ := h
  have hT22 : 22 ≤ T := by rcases hT with h | h | h <;> omega
  have hE14 := (te_o hE).1
  obtain ⟨t1, t2, t3, t4, t5, t6, t7, t8⟩ := hTe
  refine ⟨⟨hT, hG, TPr_of hPr (fun j k h1 h2 => up2_j (by omega)) (fun _ _ _ _ => rfl) (fun _ _ _ _ => rfl), by rw [up2_j (by omega)]; exact hmt, TT_fr hX (up2_j (by omega)) (fun _ _ _ _ => rfl) (fun _ => rfl) (fun _ => rfl) (up2_k (by decide)) (fun _ _ _ _ _ => rfl), hF, by rw [up2_j (by omega)]; exact hd1, by rw [up2_k (by decide)]; exact hd2, by rw [up2_j (by omega)]; exact ht1, by rw [up2_k (by decide)]; exact ht2, hw⟩, hE, hGT, hGE, hkn, hhc, hH, ⟨by rw [up2_j (by omega)]; exact t1, by rw [up2_k (by decide)]; exact t2, t3, t4, by rw [up2_j (by omega)]; exact t5, by rw [up2_k (by decide)]; exact t6, t7, t8⟩, by rw [up2_k (by decide), up2_k (by decide)]; exact hlim, up2_s _ _ _ _, up2_s _ _ _ _, hT46, ht250⟩
theorem TSv_w {I' A' J' R' : Nat → Nat → Int32} {tk' : Nat} (h : TSv I G A L J R T E p B nv nr kn nn dd tk tn hb z sc fb) (hw : XW T I A J R I' A' J' R') (hS : TSw I' G A' L J' R' T p B nv nr kn nn dd tk' 1 True fb) (h1 : tk ≤ tk') (h2 : tk' ≤ 250) : TSv I' G A' L J' R' T E p B nv nr kn nn dd tk' tn hb z sc fb := by
  obtain ⟨⟨hT, _⟩, hE, hGT, hGE, hkn, hhc, hH, hTe, hlim, htn1, htn2, hT46, ht250⟩ := h
  have hT58 := (tr_o hT).1
  have hT22 : 22 ≤ T := by rcases hT with h | h | h <;> omega
  have hE14 := (te_o hE).1
  obtain ⟨w1, w2, w3, w4, w5⟩ := hw
  have hfi : fi A' T kn = fi A T kn := by funext m; unfold fi; rw [os_c (A := A) (A' := A') (fun c _ => w2 _ _ (by omega) (by omega) (by omega))]
  obtain ⟨t1, t2, t3, t4, t5, t6, t7, t8⟩ := hTe
  refine ⟨hS, hE, hGT, hGE, hkn, ?_, fun x hx => ?_, ⟨by rw [w1 _ _ (fun q => by omega)]; exact t1, by rw [w3 _ _ (fun q => by omega)]; exact t2, t3, t4, by rw [w1 _ _ (fun q => by omega)]; exact t5, by rw [w3 _ _ (fun q => by omega)]; exact t6, t7, fun i hi => by rw [w2 _ _ (by omega) (by omega) (by omega), w4 _ _ (by decide) (by decide)]; exact t8 i hi⟩, by rw [w1 _ _ (fun q => by omega), w3 _ _ (fun q => by omega)]; exact hlim, by rw [w1 _ _ (fun q => by omega)]; exact htn1, by rw [w3 _ _ (fun q => by omega)]; exact htn2, hT46, h2⟩
  · have e : hc A' = hc A := by
      unfold hc; simp only [fun m => w2 15 m (show 15 ≠ T + 5 by omega) (by omega) (by omega)]
    omega
  · have hx := hH x hx
    unfold THo THa THt at hx ⊢
    rw [hfi, w2 15 x (by omega) (by omega) (by omega), w2 16 x (by omega) (by omega) (by omega), w2 (E + 1) x (by omega) (by omega) (by omega), w2 (E + 3) x (by omega) (by omega) (by omega), w2 (E + 4) x (by omega) (by omega) (by omega), w2 (E + 5) x (by omega) (by omega) (by omega), w4 337 x (by decide) (by decide), w4 336 x (by decide) (by decide), w4 335 x (by decide) (by decide), w4 334 x (by decide) (by decide), w4 333 x (by decide) (by decide), w4 332 x (by decide) (by decide)]
    simp only [fun m => w4 343 m (by decide) (by decide), fun m => w4 344 m (by decide) (by decide)]
    exact hx
/-- how a solving stands behind a turn -/
def TEn (R : Nat → Nat → Int32) (nv nn tk : Nat) (r : Int32) : Prop := (r = 0 ∧ tk < 250 ∧ (∃ m, nxw R nn = some m ∧ R 344 m = 0)) ∨ (r = 1 ∧ 0 < tk ∧ ∃ m, m < nn ∧ R 346 (tk - 1) = nI m ∧ dn R m = nv) ∨ (r = 2 ∧ nxw R nn = none) ∨ r = 3 ∨ r = 4
theorem t_wsv (h : TSv I G A L J R T E p B nv nr kn nn dd tk tn hb z sc fb) (ht : tk < 250) : ∃ r I' A' J' R' tk', f_X3_walkOn I G A L = some (r, I', A') ∧ f_X7_walks J R (nI p) = some (r, J', R') ∧ TSv I' G A' L J' R' T E p B nv nr kn nn dd tk' tn hb z sc fb ∧ XT T E I A L J R I' A' L J' R' ∧ TEn R' nv nn tk' r ∧ tk ≤ tk' := by
  have hS := h.1
  have hT := hS.1
  have n2 := (t_nxw hS.2.2.2.2.1 hT).2
  obtain ⟨r, I', A', J', R', tk', q1, q2, q3, q4, q5, q6, q7⟩ := t_walk h.2.2.1 (250 - tk) 0 FU FU tk I A J R (by omega) (by omega) (by omega) (t_fu _ (by omega)) (t_fu _ (by omega)) h.2.2.2.2.2.2.2.2.1 hS
  refine ⟨r, I', A', J', R', tk', ?_, ?_, TSv_w h q4 q3 q5 q6, XT_w q4, q7, q5⟩
  · simp only [f_X3_walkOn, bd]; exact q1
  · simp only [f_X7_walks, n2, Option.bind_some, bd]; exact q2
theorem t_turn (h : TSv I G A L J R T E p B nv nr kn nn dd tk tn hb z sc fb) (ht : tk < 250) (hb30 : hb < 1073741824) (htn : tn < 1073741824) : ∃ r I' A' L' J' R' J2 R2 kn' nn' dd' tk' fb', f_X3_takeTurn I G A L = some (r, I', A', L') ∧ f_X7_turnOf (up2 J 318 28 (nI (tn + 1))) R (nI p) (nI (who R tn sc z)) = some (J2, R2) ∧ f_X7_walks J2 R2 (nI p) = some (r, J', R') ∧ TSv I' G A' L' J' R' T E p B nv nr kn' nn' dd' tk' (tn + 1) (hb + 1) z sc fb' ∧ XT T E I A L J R I' A' L' J' R' ∧ TEn R' nv nn' tk' r ∧ tk ≤ tk' := by
  have h1 := TSv_tn h
  obtain ⟨⟨hT, _⟩, hE, hGT, hGE, hkn, hhc, hH, hTe, hlim, htn1, htn2, hT46, ht250⟩ := h
  have hT22 : 22 ≤ T := by rcases hT with h | h | h <;> omega
  have hw5 := who_5 (tn := tn) hTe
  have hwho := t_who hTe hE htn
  obtain ⟨g0, _⟩ := tgd hT
  obtain ⟨k0, k1, k3, k4, k5, l1, l3, l4, l5⟩ := tegd hE
  have hX0 : XT T E I A L J R (up2 I 14 3 (nI (tn + 1))) A L (up2 J 318 28 (nI (tn + 1))) R := ⟨fun j k _ _ h3 => by unfold up2; rw [if_neg h3], fun k _ _ _ => up2_j (by omega), fun _ _ _ _ _ _ _ _ => rfl, fun _ _ _ => rfl, fun j k h => by unfold up2; rw [if_neg (fun q => h ⟨q.1, by omega⟩)], fun _ _ _ _ => rfl⟩
  generalize hhh : who R tn sc z = hh at *
  by_cases hno : A 15 hh = -1
  · obtain ⟨A1, R1, q1, q2, q3, q4⟩ := t_pick h1 hw5 hno hb30
    obtain ⟨r, I', A', J', R', tk', w1, w2, w3, w4, w5, w6⟩ := t_wsv q3 ht
    refine ⟨r, I', A', L, J', R', _, R1, kn, nn, dd, tk', fb, ?_, q2, w2, w3, XT_tr (XT_tr hX0 q4) w4, w5, w6⟩
    simp (disch := omega) only [f_X3_takeTurn, hGE, gd_t k0, htn1, hwho, Option.bind_some, bd, nI_1, gd_in, t_cl, if_pos hno, q1, w1]
  · by_cases hfl : A 16 hh = A (E + 1) hh
    · obtain ⟨A1, R1, q1, q2, q3, q4⟩ := t_repl h1 hw5 hno hfl hb30
      obtain ⟨r, I', A', J', R', tk', w1, w2, w3, w4, w5, w6⟩ := t_wsv q3 ht
      refine ⟨r, I', A', L, J', R', _, R1, kn, nn, dd, tk', fb, ?_, q2, w2, w3, XT_tr (XT_tr hX0 q4) w4, w5, w6⟩
      simp (disch := omega) only [f_X3_takeTurn, hGE, gd_t k0, htn1, hwho, Option.bind_some, bd, nI_1, gd_in, t_cl, if_neg hno, gd_t k1, l1, if_pos hfl, q1, w1]
    · obtain ⟨I1, A1, L1, J1, R1, kn1, nn1, fb1, q1, q2, q3, q4⟩ := t_done h1 hw5 hno hfl hb30
      obtain ⟨r, I', A', J', R', tk', w1, w2, w3, w4, w5, w6⟩ := t_wsv q3 ht
      refine ⟨r, I', A', L1, J', R', J1, R1, kn1, nn1, dd + 1, tk', fb1, ?_, q2, w2, w3, XT_tr (XT_tr hX0 q4) w4, w5, w6⟩
      simp (disch := omega) only [f_X3_takeTurn, hGE, hGT, gd_t k0, htn1, hwho, Option.bind_some, bd, nI_1, gd_in, t_cl, if_neg hno, gd_t k1, l1, if_neg hfl, gd_t g0, q1, gd_t k3, l3, w1]
theorem TEn_0 {r : Int32} (h : TEn R nv nn tk r) : (r = 0 ∨ r = 1 ∨ r = 2 ∨ r = 3 ∨ r = 4) ∧ (0 < r ↔ ¬ r = 0) := by
  rcases h with ⟨h, _⟩ | ⟨h, _⟩ | ⟨h, _⟩ | h | h <;> rw [h] <;> decide
/-- one turn of the reference's loop -/
theorem r_turn {k38 : Int32 → (Nat → Nat → Int32) → (Nat → Nat → Int32) → Option (Int32 × (Nat → Nat → Int32) × (Nat → Nat → Int32))} {k45 : (Nat → Nat → Int32) → (Nat → Nat → Int32) → Option (Int32 × (Nat → Nat → Int32) × (Nat → Nat → Int32))} {i ms fu : Nat} {J2 R2 J' R' : Nat → Nat → Int32} {r : Int32} (h : TTe I A J R E z sc) (ht : J 318 28 = nI tn) (htn : tn < 1073741824) (hi : i < ms) (hms : ms ≤ 500) (h1 : f_X7_turnOf (up2 J 318 28 (nI (tn + 1))) R (nI p) (nI (who R tn sc z)) = some (J2, R2)) (h2 : f_X7_walks J2 R2 (nI p) = some (r, J', R')) : f_X7_solve_L143 (nI p) (nI ms) k38 k45 (fu + 1) (nI i) J R = if 0 < r then k38 r J' R' else f_X7_solve_L143 (nI p) (nI ms) k38 k45 fu (nI (i + 1)) J' R' := by
  obtain ⟨t1, t2, t3, t4, t5, t6, t7, t8⟩ := h
  have e15 : up2 J 318 28 (nI (tn + 1)) 318 15 = nI z := by rw [up2_k (by decide)]; exact t2
  -- the join
  have hj : ∀ x : Nat, x < 2147483648 → (if x < z then x else 0) = who R tn sc z → (if nI x < nI z then (Option.bind (f_X7_turnOf (up2 J 318 28 (nI (tn + 1))) R (nI p) (nI x)) fun (I63, A64) => Option.bind (f_X7_walks I63 A64 (nI p)) fun (r66, I67, A68) => if 0 < r66 then (k38 r66 I67 A68) else (f_X7_solve_L143 (nI p) (nI ms) k38 k45 fu (nI (i + 1)) I67 A68)) else (Option.bind (f_X7_turnOf (up2 J 318 28 (nI (tn + 1))) R (nI p) 0) fun (I55, A56) => Option.bind (f_X7_walks I55 A56 (nI p)) fun (r58, I59, A60) => if 0 < r58 then (k38 r58 I59 A60) else (f_X7_solve_L143 (nI p) (nI ms) k38 k45 fu (nI (i + 1)) I59 A60))) = if 0 < r then k38 r J' R' else f_X7_solve_L143 (nI p) (nI ms) k38 k45 fu (nI (i + 1)) J' R' := fun x hx hw => by
    by_cases hxz : x < z
    · rw [if_pos hxz] at hw
      rw [if_pos (nI_lt hxz (by omega)), hw, h1, Option.bind_some]
      show (Option.bind (f_X7_walks J2 R2 (nI p)) _) = _
      rw [h2, Option.bind_some]
    · rw [if_neg hxz] at hw
      rw [if_neg (nI_nlt (by omega) (by omega))]
      have h1 : f_X7_turnOf (up2 J 318 28 (nI (tn + 1))) R (nI p) 0 = some (J2, R2) := by rw [← hw] at h1; exact h1
      rw [h1, Option.bind_some]
      show (Option.bind (f_X7_walks J2 R2 (nI p)) _) = _
      rw [h2, Option.bind_some]
  rw [f_X7_solve_L143, if_pos (nI_lt hi (by omega))]
  simp only [bd]
  rw [ht, nI_1, e15, nI_1, t2, t6]
  by_cases h1 : tn < sc
  · rw [if_pos (nI_lt h1 (by omega)), gd_in (show tn < 200 by omega) (by omega), t_cl (show tn < 2147483648 by omega)]
    obtain ⟨q, x, hx, qx⟩ := t8 tn h1
    rw [qx]
    refine hj x (by omega) ?_
    unfold who
    rw [if_pos h1, qx, t_cl (by omega)]
  · rw [if_neg (nI_nlt (by omega) (by omega)), gd_t (show ¬ nI z = 0 from nI_ne0 (by omega) (by omega))]
    have e1 : nI tn - nI sc = nI (tn - sc) := by
      have : nI tn = nI (tn - sc) + nI sc := by rw [nI_add, Nat.sub_add_cancel (by omega)]
      rw [this, Int32.add_sub_cancel]
    rw [e1, t_rem (by omega) (by omega) (by omega)]
    have hm := Nat.mod_lt (tn - sc) (show z > 0 by omega)
    refine hj _ (by omega) ?_
    unfold who
    rw [if_neg h1, if_pos hm]
end SO
section SL
variable {T E p B nv nr z sc ms : Nat} {G : Nat → Nat → Nat}
theorem t_loop {k29 : Int32 → (Nat → Nat → Int32) → (Nat → Nat → Int32) → (Nat → Nat → Int64) → Option (Int32 × (Nat → Nat → Int32) × (Nat → Nat → Nat) × (Nat → Nat → Int32) × (Nat → Nat → Int64))} {k38 : Int32 → (Nat → Nat → Int32) → (Nat → Nat → Int32) → Option (Int32 × (Nat → Nat → Int32) × (Nat → Nat → Int32))} {k45 : (Nat → Nat → Int32) → (Nat → Nat → Int32) → Option (Int32 × (Nat → Nat → Int32) × (Nat → Nat → Int32))} (hms : ms ≤ 500) : ∀ (k i fu fu' tn hb kn nn dd tk : Nat) (fb : Nat → Option (Nat × Nat)) (I A : Nat → Nat → Int32) (L : Nat → Nat → Int64) (J R : Nat → Nat → Int32), i + k = ms → k + 1 < fu → k < fu' → tn + k < 1073741824 → hb + k < 1073741824 → tk < 250 → TSv I G A L J R T E p B nv nr kn nn dd tk tn hb z sc fb → ∃ r I' A' L' J' R' kn' nn' dd' tk' tn' hb' fb', f_X6_solve_L82 (nI ms) G k29 fu (nI i) 0 I A L = k29 r I' A' L' ∧ f_X7_solve_L143 (nI p) (nI ms) k38 k45 fu' (nI i) J R = (if 0 < r then k38 r J' R' else k45 J' R') ∧ TSv I' G A' L' J' R' T E p B nv nr kn' nn' dd' tk' tn' hb' z sc fb' ∧ XT T E I A L J R I' A' L' J' R' ∧ ((r = 0 ∧ tk' < 250) ∨ (¬ r = 0 ∧ TEn R' nv nn' tk' r)) ∧ tn' ≤ tn + k ∧ hb' ≤ hb + k := by
  intro k
  induction k with
  | zero =>
    intro i fu fu' tn hb kn nn dd tk fb I A L J R hi hf hf' h1 h2 h3 hS
    obtain ⟨fu, rfl⟩ : ∃ z, fu = z + 1 := ⟨fu - 1, by omega⟩
    obtain ⟨fu', rfl⟩ : ∃ z, fu' = z + 1 := ⟨fu' - 1, by omega⟩
    refine ⟨0, I, A, L, J, R, kn, nn, dd, tk, tn, hb, fb, ?_, ?_, hS, XT_rf, Or.inl ⟨rfl, h3⟩, by omega, by omega⟩
    · rw [f_X6_solve_L82, if_neg (nI_nlt (by omega) (by omega))]
    · rw [f_X7_solve_L143, if_neg (nI_nlt (by omega) (by omega)), if_neg (by decide)]
  | succ k ih =>
    intro i fu fu' tn hb kn nn dd tk fb I A L J R hi hf hf' h1 h2 h3 hS
    obtain ⟨fu, rfl⟩ : ∃ z, fu = z + 1 := ⟨fu - 1, by omega⟩
    obtain ⟨fu', rfl⟩ : ∃ z, fu' = z + 1 := ⟨fu' - 1, by omega⟩
    obtain ⟨r, I1, A1, L1, J1, R1, J2, R2, kn1, nn1, dd1, tk1, fb1, q1, q2, q3, q4, q5, q6, q7⟩ := t_turn hS h3 (by omega) (by omega)
    obtain ⟨e0, e1⟩ := TEn_0 q6
    have hr := r_turn (k38 := k38) (k45 := k45) (i := i) (ms := ms) (fu := fu') hS.2.2.2.2.2.2.2.1 hS.2.2.2.2.2.2.2.2.2.2.1 (by omega) (by omega) hms q2 q3
    have hcl : f_X6_solve_L82 (nI ms) G k29 (fu + 1) (nI i) 0 I A L = f_X6_solve_L82 (nI ms) G k29 fu (nI (i + 1)) r I1 A1 L1 := by
      rw [f_X6_solve_L82, if_pos (nI_lt (by omega) (by omega)), if_pos rfl, q1, Option.bind_some, nI_1]
    by_cases h0 : r = 0
    · subst h0
      have ht1 : tk1 < 250 := by
        rcases q6 with ⟨_, q, _⟩ | ⟨q, _⟩ | ⟨q, _⟩ | q | q
        · exact q
        all_goals exact absurd q (by decide)
      obtain ⟨r, I', A', L', J', R', kn', nn', dd', tk', tn', hb', fb', p1, p2, p3, p4, p5, p6, p7⟩ := ih (i + 1) fu fu' (tn + 1) (hb + 1) kn1 nn1 dd1 tk1 fb1 I1 A1 L1 J1 R1 (by omega) (by omega) (by omega) (by omega) (by omega) ht1 q4
      rw [if_neg (by decide)] at hr
      exact ⟨r, I', A', L', J', R', kn', nn', dd', tk', tn', hb', fb', hcl.trans p1, hr.trans p2, p3, XT_tr q5 p4, p5, by omega, by omega⟩
    · refine ⟨r, I1, A1, L1, J1, R1, kn1, nn1, dd1, tk1, tn + 1, hb + 1, fb1, ?_, ?_, q4, q5, Or.inr ⟨h0, q6⟩, by omega, by omega⟩
      · obtain ⟨fu, rfl⟩ : ∃ z, fu = z + 1 := ⟨fu - 1, by omega⟩
        rw [hcl, f_X6_solve_L82]
        by_cases q : nI (i + 1) < nI ms
        · rw [if_pos q, if_neg h0]
        · rw [if_neg q]
      · rw [hr, if_pos (e1.mpr h0), if_pos (e1.mpr h0)]
end SL

/-! part 76.ends -/
/-! THE TIE: a solving ends: what is told of it -/
/-- the bound of a node, or none -/
def bno (R : Nat → Nat → Int32) : Option Nat → Int32
  | none => -1000000
  | some n => R 341 n
section EN
variable {I A : Nat → Nat → Int32} {L : Nat → Nat → Int64} {J R : Nat → Nat → Int32} {T p B nv nr kn nn dd tk : Nat} {mt : Int32} {sv : Prop} {fb : Nat → Option (Nat × Nat)} {G : Nat → Nat → Nat}
theorem t_bound {c n : Nat} (hT : TrAt T) (hc : c < lT T) (h : TNs A L R T B nv n c) : f_X5_boundOf L T (nI c) = some (R 341 n) := by
  obtain ⟨g0, g1, g2, g3, g4, g5, g6, g7, g8, g9, g10, g11⟩ := tgd hT
  obtain ⟨i1, _⟩ := ti hT hc
  have hl := (tr_l hT).2.2.2.2.2.2.2.2.2.2.2
  unfold f_X5_boundOf
  rw [gd_t g0, gd_t g1, gd_t i1, t_cl (by omega), h.2.2.2.2.2.1]
  exact congrArg some (bdo_plc _ (e8_lt (ns_6 h)))
theorem t_sumUp {s2 : Nat} {r : Int32} (h : TSw I G A L J R T p B nv nr kn nn dd tk mt sv fb) (hGT : G 14 0 = T) (hs : IA s2 12) (h318 : s2 < 318) (hsT : s2 < T ∨ T + 11 < s2) (ht : tk ≤ 250) : ∃ A', f_X3_sumUp I G A L r s2 = some A' ∧ (∀ j m, j ≠ s2 → A' j m = A j m) ∧ A' s2 0 = r ∧ A' s2 1 = nI tk ∧ A' s2 2 = nI dd ∧ A' s2 3 = I 14 3 ∧ ((r = 1 ∧ 0 < tk ∧ ∃ m, m < nn ∧ R 346 (tk - 1) = nI m ∧ A' s2 4 = R 341 m ∧ A' s2 5 = R 341 m ∧ ∀ v, v < 6 → A' s2 (6 + v) = R 339 (6 * m + v)) ∨ (¬ (r = 1 ∧ 0 < tk) ∧ A' s2 4 = -1000000 ∧ A' s2 5 = (bno R (nxw R nn)) ∧ ∀ v, v < 6 → A' s2 (6 + v) = -9)) := by
  obtain ⟨hT, hG, hPr, hmt, hX, hF, hd1, hd2, ht1, ht2, hw⟩ := h
  have hT58 := (tr_o hT).1
  have hlT := (tr_l hT).2.2.2.2.2.2.2.2.2.2.2
  have hknl := hX.2.2.2.1
  have hnv := hPr.2.2.1.1
  obtain ⟨g0, g1, g2, g3, g4, g5, g6, g7, g8, g9, g10, g11⟩ := tgd hT
  have hl : ln s2 = 12 := hs.2.2
  have hk8 : s2 < 318 ∧ kd s2 = 8 := ⟨h318, hs.2.1⟩
  have hfill := t_fill (A := A) (w := -9) hs h318 (by omega)
  have i0 : inr 0 12 := t_in (k := 0) (by omega) (by omega)
  have i1 : inr 1 12 := t_in (k := 1) (by omega) (by omega)
  have i2 : inr 2 12 := t_in (k := 2) (by omega) (by omega)
  have i3 : inr 3 12 := t_in (k := 3) (by omega) (by omega)
  have i4 : inr 4 12 := t_in (k := 4) (by omega) (by omega)
  have i5 : inr 5 12 := t_in (k := 5) (by omega) (by omega)
  -- the numbers
  have hnum : ∀ (x y : Int32), ∃ A6, A6 = up2 (up2 (up2 (up2 (up2 (up2 (fil A s2 12 (-9)) s2 0 r) s2 1 (nI tk)) s2 2 (nI dd)) s2 3 (I 14 3)) s2 4 x) s2 5 y ∧ (∀ j m, j ≠ s2 → A6 j m = A j m) ∧ A6 s2 0 = r ∧ A6 s2 1 = nI tk ∧ A6 s2 2 = nI dd ∧ A6 s2 3 = I 14 3 ∧ A6 s2 4 = x ∧ A6 s2 5 = y ∧ ∀ v, v < 6 → A6 s2 (6 + v) = -9 := fun x y => by
    refine ⟨_, rfl, fun j m q => by rw [up2_j q, up2_j q, up2_j q, up2_j q, up2_j q, up2_j q, fil_j q], ?_, ?_, ?_, ?_, ?_, ?_, fun v hv => ?_⟩
    · rw [up2_k (by decide), up2_k (by decide), up2_k (by decide), up2_k (by decide), up2_k (by decide), up2_s]
    · rw [up2_k (by decide), up2_k (by decide), up2_k (by decide), up2_k (by decide), up2_s]
    · rw [up2_k (by decide), up2_k (by decide), up2_k (by decide), up2_s]
    · rw [up2_k (by decide), up2_k (by decide), up2_s]
    · rw [up2_k (by decide), up2_s]
    · rw [up2_s]
    · rw [up2_k (by omega), up2_k (by omega), up2_k (by omega), up2_k (by omega), up2_k (by omega), up2_k (by omega)]
      unfold fil; rw [if_pos ⟨rfl, by omega⟩]
  by_cases hf : r = 1 ∧ 0 < tk
  · obtain ⟨hr1, htk⟩ := hf
    obtain ⟨m, m1, m2, m3, m4⟩ := hw (tk - 1) (by omega)
    obtain ⟨s1, _⟩ := hX.2.2.2.2.2 m m1
    have hc := (fi_mem (A := A) (T := T) (kn := kn) (n := m) (by rw [hX.1]; exact m1)).1
    have hbo := t_bound (n := m) hT (show fi A T kn m < lT T by omega) s1
    obtain ⟨A6, e6, n0, n1, n2, n3, n4, n5, n6, n7⟩ := hnum (R 341 m) (R 341 m)
    have hcp := t_copy (A := A6) (L := L) (f := 6) (dd := dn R m) hT (show fi A T kn m < lT T by omega) hs (by have := s1.1; omega) (by omega) (by omega) h318 (by rw [n0 _ _ (by omega)]; exact s1.2.2.1)
    refine ⟨cpy A6 s2 6 (dn R m) (L (T + 1) (fi A T kn m)), ?_, fun j x q => by rw [cpy_j q]; exact n0 j x q, ?_, ?_, ?_, ?_, Or.inl ⟨hr1, htk, m, m1, m2, ?_, ?_, fun v hv => ?_⟩⟩
    · have hpos : (0 : Int32) < nI tk := nI_lt (a := 0) htk (by omega)
      have hcp : f_X5_copyValues A6 L T (nI (fi A T kn m)) s2 6 = _ := hcp
      simp (disch := omega) only [f_X3_sumUp, hGT, gd_t g0, gd_t g9, (tr_l hT).2.2.2.2.2.2.2.2.1, ht1, nI_s1, gd_in, t_cl, m4, bd, hr1, if_true, if_pos hpos, z10, if_false, if_neg (t_m1 (show fi A T kn m < 2147483648 by omega)), hbo, Option.bind_some, hfill, gd_t hk8, hl, gd_t i0, gd_t i1, gd_t i2, gd_t i3, gd_t i4, gd_t i5, hd1]
      rw [hr1] at e6
      rw [← e6, hcp, Option.bind_some]
    · unfold cpy; rw [if_neg (fun q => by omega)]; exact n1
    · unfold cpy; rw [if_neg (fun q => by omega)]; exact n2
    · unfold cpy; rw [if_neg (fun q => by omega)]; exact n3
    · unfold cpy; rw [if_neg (fun q => by omega)]; exact n4
    · unfold cpy; rw [if_neg (fun q => by omega)]; exact n5
    · unfold cpy; rw [if_neg (fun q => by omega)]; exact n6
    · unfold cpy
      by_cases hvd : v < dn R m
      · rw [if_pos ⟨rfl, by omega, by omega⟩, show 6 + v - 6 = v by omega, s1.2.2.2.2.2.1, vlo_e8 _ (ns_6 s1) hvd hv]
        exact ((s1.2.2.2.1 v hvd).1).symm
      · rw [if_neg (fun q => by omega), n7 v hv, s1.2.2.2.2.1 v (by omega) hv]
  · obtain ⟨A6, e6, n0, n1, n2, n3, n4, n5, n6, n7⟩ := hnum (-1000000) (bno R (nxw R nn))
    refine ⟨A6, ?_, n0, n1, n2, n3, n4, Or.inr ⟨hf, n5, n6, n7⟩⟩
    have hz : f_X3_sumUp I G A L r s2 = (bd (fun (z11 : Int32) => bd (fun (z16 : Int32) => some (up2 (up2 (up2 (up2 (up2 (up2 (fil A s2 12 (-9)) s2 0 r) s2 1 (nI tk)) s2 2 (nI dd)) s2 3 (I 14 3)) s2 4 (-1000000)) s2 5 z16)) fun j17 => if z11 = (-1) then (j17 (-1000000)) else (Option.bind (f_X5_boundOf L T z11) fun r47 => j17 r47)) fun j12 => Option.bind (f_X5_nextOfWalk I A L T) fun r51 => j12 r51) := by
      by_cases hr1 : r = 1
      · have hpos : ¬ (0 : Int32) < nI tk := fun q => hf ⟨hr1, by have := (t_lt (a := 0) (b := tk) (by omega) (by omega)).mp q; exact this⟩
        simp only [f_X3_sumUp, hGT, gd_t g0, ht1, bd, if_pos hr1, if_neg hpos, if_true, hfill, Option.bind_some, gd_t hk8, hl, gd_t i0, gd_t i1, gd_t i2, gd_t i3, gd_t i4, gd_t i5, hd1]
      · simp only [f_X3_sumUp, hGT, gd_t g0, ht1, bd, if_neg hr1, if_true, hfill, Option.bind_some, gd_t hk8, hl, gd_t i0, gd_t i1, gd_t i2, gd_t i3, gd_t i4, gd_t i5, hd1]
    rw [hz, (t_nxw hX hT).1]
    simp only [bd, Option.bind_some]
    cases hnx : nxw R nn with
    | none =>
      rw [hnx] at e6
      rw [if_pos (show enc (-1) (Option.map (fi A T kn) none) = -1 from rfl), e6]
      rfl
    | some n =>
      rw [hnx] at e6
      obtain ⟨o1, o2, o3⟩ := nxw_o hnx
      obtain ⟨s1, _⟩ := hX.2.2.2.2.2 n o1
      have hc := (fi_mem (A := A) (T := T) (kn := kn) (n := n) (by rw [hX.1]; exact o1)).1
      have hbo := t_bound (n := n) hT (show fi A T kn n < lT T by omega) s1
      have e1 : enc (-1) (Option.map (fi A T kn) (some n)) = nI (fi A T kn n) := rfl
      rw [e1, if_neg (t_m1 (by omega)), hbo, Option.bind_some, e6]
      rfl
end EN
/-! the reference's part -/
/-- the answer's row, up to i -/
def anr (R : Nat → Nat → Int32) (p m i : Nat) : Nat → Nat → Int32 := fun j x => if j = 353 ∧ 6 * p ≤ x ∧ x < 6 * p + i then R 339 (6 * m + (x - 6 * p)) else R j x
theorem r_ans_L {J R : Nat → Nat → Int32} {p m : Nat} {k78 : (Nat → Nat → Int32) → Option ((Nat → Nat → Int32) × (Nat → Nat → Int32))} (hp : p < 5) (hm : m < 2000) : ∀ (k i fu : Nat), i + k = 6 → k < fu → f_X7_endsAs_L187 (nI m) (nI p) J k78 fu (nI i) (anr R p m i) = k78 (anr R p m 6) := by
  intro k
  induction k with
  | zero =>
    intro i fu hi hf
    obtain ⟨fu, rfl⟩ : ∃ z, fu = z + 1 := ⟨fu - 1, by omega⟩
    obtain rfl : i = 6 := by omega
    rw [f_X7_endsAs_L187, if_neg (by decide)]
  | succ k ih =>
    intro i fu hi hf
    obtain ⟨fu, rfl⟩ : ∃ z, fu = z + 1 := ⟨fu - 1, by omega⟩
    have e1 : anr R p m i 339 (6 * m + i) = R 339 (6 * m + i) := by unfold anr; rw [if_neg (fun q => by omega)]
    have e2 : up2 (anr R p m i) 353 (6 * p + i) (R 339 (6 * m + i)) = anr R p m (i + 1) := by
      funext j x
      unfold up2 anr
      by_cases h : j = 353 ∧ x = 6 * p + i
      · rw [if_pos h, if_pos ⟨h.1, by omega, by omega⟩, h.2]; congr 1; omega
      · rw [if_neg h]
        by_cases h2 : j = 353 ∧ 6 * p ≤ x ∧ x < 6 * p + i
        · rw [if_pos h2, if_pos ⟨h2.1, h2.2.1, by omega⟩]
        · rw [if_neg h2, if_neg (fun q => by
            rcases Nat.lt_or_ge x (6 * p + i) with r | r
            · exact h2 ⟨q.1, q.2.1, r⟩
            · exact h ⟨q.1, by omega⟩)]
    rw [f_X7_endsAs_L187, if_pos (show nI i < 6 from nI_lt (b := 6) (by omega) (by omega))]
    simp (disch := omega) only [bd, gd_in, t_cl, m6, e1, e2, nI_1]
    exact ih (i + 1) fu (by omega) (by omega)
/-- what is told of the nodes that the walk took, up to i -/
def WKd (R0 R : Nat → Nat → Int32) (p nv i : Nat) : Prop := (∀ j x, (j < 354 ∨ 361 < j) → R j x = R0 j x) ∧ ∀ x n, x < i → R0 346 x = nI n → n < 2000 → R 354 x = R0 338 n ∧ R 356 x = R0 341 n ∧ R 357 x = R0 343 n ∧ R 358 x = R0 349 n ∧ R 359 x = (if dn R0 n < nv then R0 321 (6 * p + dn R0 n) else 0) ∧ ∀ v, v < 6 → R 355 (6 * x + v) = R0 339 (6 * n + v) ∧ R 360 (6 * x + v) = R0 347 (6 * n + v) ∧ R 361 (6 * x + v) = R0 348 (6 * n + v)
def WKe (R0 R : Nat → Nat → Int32) (p nv i : Nat) : Prop := ∀ x n, x < i → R0 346 x = nI n → n < 2000 → R 354 x = R0 338 n ∧ R 356 x = R0 341 n ∧ R 357 x = R0 343 n ∧ R 358 x = R0 349 n ∧ R 359 x = (if dn R0 n < nv then R0 321 (6 * p + dn R0 n) else 0) ∧ ∀ v, v < 6 → R 355 (6 * x + v) = R0 339 (6 * n + v) ∧ R 360 (6 * x + v) = R0 347 (6 * n + v) ∧ R 361 (6 * x + v) = R0 348 (6 * n + v)
theorem r_wrow_L {J R0 : Nat → Nat → Int32} {a1 : Int32} {i n : Nat} {k64 : (Nat → Nat → Int32) → Option ((Nat → Nat → Int32) × (Nat → Nat → Int32))} (hi : i < 250) (hn : n < 2000) : ∀ (k v fu : Nat) (R : Nat → Nat → Int32), v + k = 6 → k < fu → (∀ j x, j = 339 ∨ j = 347 ∨ j = 348 → R j x = R0 j x) → ∃ R', f_X7_endsAs_L357 (nI i) a1 J k64 fu (nI v) (nI n) R = k64 R' ∧ (∀ j x, ¬ ((j = 355 ∨ j = 360 ∨ j = 361) ∧ 6 * i + v ≤ x ∧ x < 6 * i + 6) → R' j x = R j x) ∧ ∀ u, v ≤ u → u < 6 → R' 355 (6 * i + u) = R0 339 (6 * n + u) ∧ R' 360 (6 * i + u) = R0 347 (6 * n + u) ∧ R' 361 (6 * i + u) = R0 348 (6 * n + u) := by
  intro k
  induction k with
  | zero =>
    intro v fu R hv hf hR
    obtain ⟨fu, rfl⟩ : ∃ z, fu = z + 1 := ⟨fu - 1, by omega⟩
    obtain rfl : v = 6 := by omega
    exact ⟨R, by rw [f_X7_endsAs_L357, if_neg (by decide)], fun _ _ _ => rfl, fun u h1 h2 => by omega⟩
  | succ k ih =>
    intro v fu R hv hf hR
    obtain ⟨fu, rfl⟩ : ∃ z, fu = z + 1 := ⟨fu - 1, by omega⟩
    obtain ⟨R1, e1⟩ : ∃ z, z = up2 (up2 (up2 R 355 (6 * i + v) (R0 339 (6 * n + v))) 360 (6 * i + v) (R0 347 (6 * n + v))) 361 (6 * i + v) (R0 348 (6 * n + v)) := ⟨_, rfl⟩
    have hR1 : ∀ j x, ¬ ((j = 355 ∨ j = 360 ∨ j = 361) ∧ x = 6 * i + v) → R1 j x = R j x := fun j x q => by
      rw [e1]; unfold up2
      rw [if_neg (fun r => q ⟨by omega, r.2⟩), if_neg (fun r => q ⟨by omega, r.2⟩), if_neg (fun r => q ⟨by omega, r.2⟩)]
    obtain ⟨R', q1, q2, q3⟩ := ih (v + 1) fu R1 (by omega) (by omega) (fun j x h => (hR1 j x (fun q => by omega)).trans (hR j x h))
    refine ⟨R', ?_, fun j x h => (q2 j x (fun q => h ⟨q.1, by omega, q.2.2⟩)).trans (hR1 j x (fun q => h ⟨q.1, by omega, by omega⟩)), fun u h1 h2 => ?_⟩
    · rw [f_X7_endsAs_L357, if_pos (show nI v < 6 from nI_lt (b := 6) (by omega) (by omega))]
      simp (disch := omega) only [bd, gd_in, t_cl, m6, nI_1, hR 339 _ (Or.inl rfl), up2_j (show (347 : Nat) ≠ 355 by decide), up2_j (show (348 : Nat) ≠ 360 by decide), up2_j (show (348 : Nat) ≠ 355 by decide), hR 347 _ (Or.inr (Or.inl rfl)), hR 348 _ (Or.inr (Or.inr rfl))]
      rw [← e1]
      exact q1
    · by_cases huv : u = v
      · subst huv
        rw [q2 355 _ (fun q => by omega), q2 360 _ (fun q => by omega), q2 361 _ (fun q => by omega), e1]
        refine ⟨?_, ?_, ?_⟩
        · rw [up2_j (by decide), up2_j (by decide), up2_s]
        · rw [up2_j (by decide), up2_s]
        · rw [up2_s]
      · exact q3 u (by omega) h2
theorem r_wk_L {J R0 : Nat → Nat → Int32} {p nv tk : Nat} {k46 : (Nat → Nat → Int32) → Option ((Nat → Nat → Int32) × (Nat → Nat → Int32))} (hp : p < 5) (hJ : J 318 31 = nI tk) (ht : tk ≤ 250) (hnv : nv ≤ 6) (h319 : R0 319 p = nI nv) (hw : ∀ x, x < tk → ∃ n, n < 2000 ∧ R0 346 x = nI n ∧ R0 338 n = nI (dn R0 n) ∧ dn R0 n ≤ nv) : ∀ (k i fu : Nat) (R : Nat → Nat → Int32), i + k = tk → k < fu → WKd R0 R p nv i → ∃ R', f_X7_endsAs_L236 (nI p) J k46 fu (nI i) R = k46 R' ∧ WKd R0 R' p nv tk := by
  intro k
  induction k with
  | zero =>
    intro i fu R hi hf hR
    obtain ⟨fu, rfl⟩ : ∃ z, fu = z + 1 := ⟨fu - 1, by omega⟩
    obtain rfl : i = tk := by omega
    exact ⟨R, by rw [f_X7_endsAs_L236, hJ, if_neg (nI_nlt (by omega) (by omega))], hR⟩
  | succ k ih =>
    intro i fu R hi hf hR
    obtain ⟨fu, rfl⟩ : ∃ z, fu = z + 1 := ⟨fu - 1, by omega⟩
    obtain ⟨n, n1, n2, n3, n4⟩ := hw i (by omega)
    obtain ⟨w1, w2⟩ := hR
    have e46 : R 346 i = nI n := (w1 _ _ (by omega)).trans n2
    obtain ⟨R4, e4⟩ : ∃ z, z = up2 (up2 (up2 (up2 R 354 i (R0 338 n)) 356 i (R0 341 n)) 357 i (R0 343 n)) 358 i (R0 349 n) := ⟨_, rfl⟩
    have r4 : ∀ j x, (j < 354 ∨ j = 355 ∨ 358 < j) → R4 j x = R j x := fun j x q => by
      rw [e4, up2_j (by omega), up2_j (by omega), up2_j (by omega), up2_j (by omega)]
    have r4b : ∀ j x, x ≠ i → R4 j x = R j x := fun j x q => by
      rw [e4, up2_k q, up2_k q, up2_k q, up2_k q]
    have r454 : R4 354 i = R0 338 n := by rw [e4, up2_j (by decide), up2_j (by decide), up2_j (by decide), up2_s]
    have r456 : R4 356 i = R0 341 n := by rw [e4, up2_j (by decide), up2_j (by decide), up2_s]
    have r457 : R4 357 i = R0 343 n := by rw [e4, up2_j (by decide), up2_s]
    have r458 : R4 358 i = R0 349 n := by rw [e4, up2_s]
    obtain ⟨zz, ez⟩ : ∃ z : Int32, z = (if dn R0 n < nv then R0 321 (6 * p + dn R0 n) else 0) := ⟨_, rfl⟩
    obtain ⟨R5, e5⟩ : ∃ z, z = up2 R4 359 i zz := ⟨_, rfl⟩
    have r5 : ∀ j x, j ≠ 359 → R5 j x = R4 j x := fun j x q => by rw [e5, up2_j q]
    obtain ⟨R6, q1, q2, q3⟩ := r_wrow_L (J := J) (R0 := R0) (a1 := nI p) (k64 := fun A65 => f_X7_endsAs_L236 (nI p) J k46 fu (nI (i + 1)) A65) (show i < 250 by omega) n1 6 0 FU R5 (by omega) (t_fu _ (by omega)) (fun j x h => (r5 j x (by omega)).trans ((r4 j x (by omega)).trans (w1 j x (by omega))))
    have hW : WKd R0 R6 p nv (i + 1) := by
      refine ⟨fun j x h => (q2 j x (fun q => by omega)).trans ((r5 j x (by omega)).trans ((r4 j x (by omega)).trans (w1 j x h))), fun x m hx hm hm2 => ?_⟩
      by_cases hxi : x = i
      · subst hxi
        have hmn : m = n := by rw [n2, t_eq (by omega) (by omega)] at hm; exact hm.symm
        subst hmn
        rw [q2 354 _ (fun q => by omega), q2 356 _ (fun q => by omega), q2 357 _ (fun q => by omega), q2 358 _ (fun q => by omega), q2 359 _ (fun q => by omega), r5 354 _ (by decide), r5 356 _ (by decide), r5 357 _ (by decide), r5 358 _ (by decide), e5, up2_s, ez]
        exact ⟨r454, r456, r457, r458, rfl, fun v hv => q3 v (by omega) hv⟩
      · obtain ⟨u1, u2, u3, u4, u5, u6⟩ := w2 x m (by omega) hm hm2
        rw [q2 354 _ (fun q => by omega), q2 356 _ (fun q => by omega), q2 357 _ (fun q => by omega), q2 358 _ (fun q => by omega), q2 359 _ (fun q => by omega), r5 354 _ (by decide), r5 356 _ (by decide), r5 357 _ (by decide), r5 358 _ (by decide), e5, up2_k hxi, r4b _ _ hxi, r4b _ _ hxi, r4b _ _ hxi, r4b _ _ hxi, r4b _ _ hxi]
        refine ⟨u1, u2, u3, u4, u5, fun v hv => ?_⟩
        rw [q2 355 _ (fun q => by omega), q2 360 _ (fun q => by omega), q2 361 _ (fun q => by omega), r5 355 _ (by decide), r5 360 _ (by decide), r5 361 _ (by decide), r4 355 _ (by omega), r4 360 _ (by omega), r4 361 _ (by omega)]
        exact u6 v hv
    obtain ⟨R', p1, p2⟩ := ih (i + 1) fu R6 (by omega) (by omega) hW
    refine ⟨R', ?_, p2⟩
    have hr338 : ∀ F : Nat → Nat → Int32, F = R4 → F 338 n = nI (dn R0 n) := fun F h => by rw [h, r4 338 n (by omega), w1 338 n (by omega)]; exact n3
    have hr319 : R4 319 p = nI nv := by rw [r4 319 p (by omega), w1 319 p (by omega)]; exact h319
    have hr321 : ∀ x, R4 321 x = R0 321 x := fun x => by rw [r4 321 x (by omega), w1 321 x (by omega)]
    have hq1 : f_X7_endsAs_L357 (nI i) (nI p) J (fun A65 => f_X7_endsAs_L236 (nI p) J k46 fu (nI (i + 1)) A65) FU 0 (nI n) R5 = k46 R' := q1.trans p1
    rw [f_X7_endsAs_L236, hJ, if_pos (nI_lt (by omega) (by omega))]
    simp (disch := omega) only [gd_in, t_cl, e46, bd, nI_1, w1 338 _ (Or.inl (by omega)), up2_j (show (341 : Nat) ≠ 354 by decide), up2_j (show (343 : Nat) ≠ 356 by decide), up2_j (show (343 : Nat) ≠ 354 by decide), up2_j (show (349 : Nat) ≠ 357 by decide), up2_j (show (349 : Nat) ≠ 356 by decide), up2_j (show (349 : Nat) ≠ 354 by decide), w1 341 _ (Or.inl (by omega)), w1 343 _ (Or.inl (by omega)), w1 349 _ (Or.inl (by omega))]
    rw [← e4, hr338 R4 rfl, hr319]
    by_cases hd : dn R0 n < nv
    · rw [if_pos hd] at ez
      rw [if_pos (nI_lt hd (by omega)), m6, gd_in (by omega) (by omega), t_cl (show 6 * p + dn R0 n < 2147483648 by omega), hr321, ← ez, ← e5]
      exact hq1
    · rw [if_neg hd] at ez
      rw [ez] at e5
      rw [if_neg (nI_nlt (by omega) (by omega)), ← e5]
      exact hq1
theorem m60 (a : Nat) : 6 * nI a = nI (6 * a) := by rw [show (6 : Int32) = nI 6 from rfl, tI_mul]
theorem nI_p2 (a : Nat) : nI a + 2 = nI (a + 2) := nI_add a 2
theorem nI_p3 (a : Nat) : nI a + 3 = nI (a + 3) := nI_add a 3
theorem nI_p4 (a : Nat) : nI a + 4 = nI (a + 4) := nI_add a 4
theorem nI_p5 (a : Nat) : nI a + 5 = nI (a + 5) := nI_add a 5
theorem r_endsAs {J R : Nat → Nat → Int32} {p nv tk mL : Nat} {nx : Option Nat} {r : Int32} (hp : p < 5) (hnx : f_X7_nextOf J R = some (enc (-9) nx)) (hnx2 : ∀ n, nx = some n → n < 2000) (hJ : J 318 31 = nI tk) (ht : tk ≤ 250) (hnv : nv ≤ 6) (h319 : R 319 p = nI nv) (hw : ∀ x, x < tk → ∃ n, n < 2000 ∧ R 346 x = nI n ∧ R 338 n = nI (dn R n) ∧ dn R n ≤ nv) (hL : 0 < tk → R 346 (tk - 1) = nI mL ∧ mL < 2000) (hr : r = 1 → 0 < tk) : ∃ R', f_X7_endsAs J R (nI p) r = some (up2 (up2 J 318 48 (nI tk)) 318 23 (-9), R') ∧ (∀ j x, (j < 350 ∨ 361 < j) → R' j x = R j x) ∧ (∀ x, ¬ (6 * p ≤ x ∧ x < 6 * p + 6) → R' 350 x = R 350 x ∧ R' 353 x = R 353 x) ∧ (∀ x, x ≠ p → R' 351 x = R 351 x ∧ R' 352 x = R 352 x) ∧ R' 350 (6 * p) = r ∧ R' 350 (6 * p + 1) = nI tk ∧ R' 350 (6 * p + 2) = J 318 30 ∧ R' 350 (6 * p + 3) = J 318 28 ∧ R' 350 (6 * p + 4) = (if r = 1 then R 341 mL else -1000000) ∧ R' 350 (6 * p + 5) = (if r = 1 then R 341 mL else bno R nx) ∧ R' 351 p = 1 ∧ R' 352 p = (if r = 1 then 1 else 0) ∧ (r = 1 → ∀ v, v < 6 → R' 353 (6 * p + v) = R 339 (6 * mL + v)) ∧ WKe R R' p nv tk := by
  obtain ⟨x4, e4⟩ : ∃ z : Int32, z = (if r = 1 then R 341 mL else -1000000) := ⟨_, rfl⟩
  obtain ⟨x5, e5⟩ : ∃ z : Int32, z = (if r = 1 then R 341 mL else bno R nx) := ⟨_, rfl⟩
  obtain ⟨x2, e2⟩ : ∃ z : Int32, z = (if r = 1 then 1 else 0) := ⟨_, rfl⟩
  obtain ⟨RA, eA⟩ : ∃ z, z = up2 (up2 (up2 (up2 (up2 (up2 (up2 (up2 R 350 (6 * p) r) 350 (6 * p + 1) (nI tk)) 350 (6 * p + 2) (J 318 30)) 350 (6 * p + 3) (J 318 28)) 350 (6 * p + 4) x4) 350 (6 * p + 5) x5) 351 p 1) 352 p x2 := ⟨_, rfl⟩
  have rA : ∀ j x, ¬ (j = 350 ∧ 6 * p ≤ x ∧ x < 6 * p + 6) → ¬ ((j = 351 ∨ j = 352) ∧ x = p) → RA j x = R j x := fun j x q1 q2 => by
    rw [eA]; unfold up2
    rw [if_neg (fun q => q2 ⟨by omega, q.2⟩), if_neg (fun q => q2 ⟨by omega, q.2⟩), if_neg (fun q => q1 ⟨q.1, by omega, by omega⟩), if_neg (fun q => q1 ⟨q.1, by omega, by omega⟩), if_neg (fun q => q1 ⟨q.1, by omega, by omega⟩), if_neg (fun q => q1 ⟨q.1, by omega, by omega⟩), if_neg (fun q => q1 ⟨q.1, by omega, by omega⟩), if_neg (fun q => q1 ⟨q.1, by omega, by omega⟩)]
  have a0 : RA 350 (6 * p) = r := by rw [eA, up2_j (by decide), up2_j (by decide), up2_k (by omega), up2_k (by omega), up2_k (by omega), up2_k (by omega), up2_k (by omega), up2_s]
  have a1 : RA 350 (6 * p + 1) = nI tk := by rw [eA, up2_j (by decide), up2_j (by decide), up2_k (by omega), up2_k (by omega), up2_k (by omega), up2_k (by omega), up2_s]
  have a2 : RA 350 (6 * p + 2) = J 318 30 := by rw [eA, up2_j (by decide), up2_j (by decide), up2_k (by omega), up2_k (by omega), up2_k (by omega), up2_s]
  have a3 : RA 350 (6 * p + 3) = J 318 28 := by rw [eA, up2_j (by decide), up2_j (by decide), up2_k (by omega), up2_k (by omega), up2_s]
  have a4 : RA 350 (6 * p + 4) = x4 := by rw [eA, up2_j (by decide), up2_j (by decide), up2_k (by omega), up2_s]
  have a5 : RA 350 (6 * p + 5) = x5 := by rw [eA, up2_j (by decide), up2_j (by decide), up2_s]
  have a6 : RA 351 p = 1 := by rw [eA, up2_j (by decide), up2_s]
  have a7 : RA 352 p = x2 := by rw [eA, up2_s]
  -- behind the answer
  have hB : ∃ RB, ((if r = 1 then anr RA p mL 6 else RA) = RB) ∧ (∀ j x, ¬ (j = 353 ∧ 6 * p ≤ x ∧ x < 6 * p + 6) → RB j x = RA j x) ∧ (r = 1 → ∀ v, v < 6 → RB 353 (6 * p + v) = R 339 (6 * mL + v)) := by
    by_cases h1 : r = 1
    · refine ⟨_, if_pos h1, fun j x q => by unfold anr; rw [if_neg q], fun _ v hv => ?_⟩
      unfold anr
      rw [if_pos ⟨rfl, by omega, by omega⟩, rA _ _ (fun q => by omega) (fun q => by omega), show 6 * mL + (6 * p + v - 6 * p) = 6 * mL + v by omega]
    · exact ⟨_, if_neg h1, fun _ _ _ => rfl, fun q => absurd q h1⟩
  obtain ⟨RB, eB, rB, rBa⟩ := hB
  have rBo : ∀ j x, (j < 350 ∨ 353 < j) → RB j x = R j x := fun j x q => (rB j x (fun q => by omega)).trans (rA j x (fun q => by omega) (fun q => by omega))
  have hdnB : ∀ n, dn RB n = dn R n := fun n => dn_c (rBo 338 n (by omega))
  obtain ⟨R', w1, w2⟩ := r_wk_L (J := up2 J 318 48 (nI tk)) (R0 := RB) (nv := nv) (k46 := fun A47 => some (up2 (up2 J 318 48 (nI tk)) 318 23 (-9), A47)) hp (by rw [up2_k (by decide)]; exact hJ) ht hnv (by rw [rBo 319 p (by omega)]; exact h319) (fun x hx => by
      obtain ⟨n, n1, n2, n3, n4⟩ := hw x hx
      exact ⟨n, n1, by rw [rBo 346 x (by omega)]; exact n2, by rw [rBo 338 n (by omega), hdnB]; exact n3, by rw [hdnB]; exact n4⟩) tk 0 FU RB (by omega) (t_fu _ (by omega)) ⟨fun _ _ _ => rfl, fun x n h => by omega⟩
  obtain ⟨v1, v2⟩ := w2
  refine ⟨R', ?_, fun j x q => (v1 j x (by omega)).trans (rBo j x (by omega)), fun x q => ⟨(v1 _ _ (by omega)).trans ((rB _ _ (fun q => by omega)).trans (rA _ _ (fun r => q r.2) (fun q => by omega))), (v1 _ _ (by omega)).trans ((rB _ _ (fun r => q r.2)).trans (rA _ _ (fun q => by omega) (fun q => by omega)))⟩, fun x q => ⟨(v1 _ _ (by omega)).trans ((rB _ _ (fun q => by omega)).trans (rA _ _ (fun q => by omega) (fun r => q r.2))), (v1 _ _ (by omega)).trans ((rB _ _ (fun q => by omega)).trans (rA _ _ (fun q => by omega) (fun r => q r.2)))⟩, ?_, ?_, ?_, ?_, ?_, ?_, ?_, ?_, fun h1 v hv => ?_, ?_⟩
  · have hw1 : f_X7_endsAs_L236 (nI p) (up2 J 318 48 (nI tk)) (fun A47 => some (up2 (up2 J 318 48 (nI tk)) 318 23 (-9), A47)) FU 0 RB = some (up2 (up2 J 318 48 (nI tk)) 318 23 (-9), R') := w1
    by_cases h1 : r = 1
    · have htk := hr h1
      obtain ⟨hl1, hl2⟩ := hL htk
      have hpos : (0 : Int32) < nI tk := nI_lt (a := 0) htk (by omega)
      rw [if_pos h1] at e4 e5 e2 eB
      have hans := r_ans_L (J := J) (R := RA) (k78 := fun A79 => f_X7_endsAs_L236 (nI p) (up2 J 318 48 (nI tk)) (fun A47 => some (up2 (up2 J 318 48 (nI tk)) 318 23 (-9), A47)) FU 0 A79) hp hl2 6 0 FU (by omega) (t_fu _ (by omega))
      have e0 : anr RA p mL 0 = RA := by funext j x; unfold anr; rw [if_neg (fun q => by omega)]
      rw [e0, eB] at hans
      have e341a : ∀ q, up2 (up2 (up2 (up2 R 350 (6 * p) r) 350 (6 * p + 1) (nI tk)) 350 (6 * p + 2) (J 318 30)) 350 (6 * p + 3) (J 318 28) 341 q = R 341 q := fun q => by
        rw [up2_j (by decide), up2_j (by decide), up2_j (by decide), up2_j (by decide)]
      have e341 : ∀ q y, up2 (up2 (up2 (up2 (up2 R 350 (6 * p) r) 350 (6 * p + 1) (nI tk)) 350 (6 * p + 2) (J 318 30)) 350 (6 * p + 3) (J 318 28)) 350 (6 * p + 4) y 341 q = R 341 q := fun q y => by
        rw [up2_j (by decide), up2_j (by decide), up2_j (by decide), up2_j (by decide), up2_j (by decide)]
      simp (disch := omega) only [f_X7_endsAs, hnx, Option.bind_some, bd, hJ, if_pos hpos, nI_s1, gd_in, t_cl, hl1, m60, nI_1, nI_p2, nI_p3, nI_p4, nI_p5, if_pos h1, e341a, e341, nz_1]
      rw [← e4] at e5
      rw [e5, e2] at eA
      rw [← e4, ← eA]
      exact hans.trans hw1
    · rw [if_neg h1] at e4 e5 e2 eB
      have e341 : ∀ q y, up2 (up2 (up2 (up2 (up2 R 350 (6 * p) r) 350 (6 * p + 1) (nI tk)) 350 (6 * p + 2) (J 318 30)) 350 (6 * p + 3) (J 318 28)) 350 (6 * p + 4) y 341 q = R 341 q := fun q y => by
        rw [up2_j (by decide), up2_j (by decide), up2_j (by decide), up2_j (by decide), up2_j (by decide)]
      rw [eB.symm] at hw1
      rw [e4, e2] at eA
      have hrest : (if enc (-9) nx = (-9) then f_X7_endsAs_L236 (nI p) (up2 J 318 48 (nI tk)) (fun A47 => some (up2 (up2 J 318 48 (nI tk)) 318 23 (-9), A47)) FU 0 (up2 (up2 (up2 (up2 (up2 (up2 (up2 (up2 R 350 (6 * p) r) 350 (6 * p + 1) (nI tk)) 350 (6 * p + 2) (J 318 30)) 350 (6 * p + 3) (J 318 28)) 350 (6 * p + 4) (-1000000)) 350 (6 * p + 5) (-1000000)) 351 p 1) 352 p 0) else gd (inr (enc (-9) nx) 2000) (f_X7_endsAs_L236 (nI p) (up2 J 318 48 (nI tk)) (fun A47 => some (up2 (up2 J 318 48 (nI tk)) 318 23 (-9), A47)) FU 0 (up2 (up2 (up2 (up2 (up2 (up2 (up2 (up2 R 350 (6 * p) r) 350 (6 * p + 1) (nI tk)) 350 (6 * p + 2) (J 318 30)) 350 (6 * p + 3) (J 318 28)) 350 (6 * p + 4) (-1000000)) 350 (6 * p + 5) (R 341 (enc (-9) nx).toNatClampNeg)) 351 p 1) 352 p 0))) = some (up2 (up2 J 318 48 (nI tk)) 318 23 (-9), R') := by
        cases nx with
        | none =>
          have e5 : x5 = -1000000 := e5
          rw [e5] at eA
          rw [if_pos (show enc (-9) none = -9 from rfl), ← eA]
          exact hw1
        | some n =>
          have hn := hnx2 n rfl
          have e5 : x5 = R 341 n := e5
          rw [e5] at eA
          have e9 : enc (-9) (some n) = nI n := rfl
          rw [e9, if_neg (t_m9 (by omega)), gd_in hn (by omega), t_cl (show n < 2147483648 by omega), ← eA]
          exact hw1
      by_cases htk : 0 < tk
      · have hpos : (0 : Int32) < nI tk := nI_lt (a := 0) htk (by omega)
        simp (disch := omega) only [f_X7_endsAs, hnx, Option.bind_some, bd, hJ, if_pos hpos, nI_s1, gd_in, t_cl, m60, nI_1, nI_p2, nI_p3, nI_p4, nI_p5, if_neg h1, nz_1, nz_0, e341]
        exact hrest
      · have hneg : ¬ (0 : Int32) < nI tk := nI_nlt (b := tk) (a := 0) (by omega) (by omega)
        simp (disch := omega) only [f_X7_endsAs, hnx, Option.bind_some, bd, hJ, if_neg hneg, gd_in, t_cl, m60, nI_1, nI_p2, nI_p3, nI_p4, nI_p5, if_neg h1, nz_1, nz_0, e341]
        exact hrest
  · rw [v1 _ _ (by omega), rB _ _ (fun q => by omega)]; exact a0
  · rw [v1 _ _ (by omega), rB _ _ (fun q => by omega)]; exact a1
  · rw [v1 _ _ (by omega), rB _ _ (fun q => by omega)]; exact a2
  · rw [v1 _ _ (by omega), rB _ _ (fun q => by omega)]; exact a3
  · rw [v1 _ _ (by omega), rB _ _ (fun q => by omega), a4]; exact e4
  · rw [v1 _ _ (by omega), rB _ _ (fun q => by omega), a5]; exact e5
  · rw [v1 _ _ (by omega), rB _ _ (fun q => by omega)]; exact a6
  · rw [v1 _ _ (by omega), rB _ _ (fun q => by omega), a7]; exact e2
  · rw [v1 _ _ (by omega)]; exact rBa h1 v hv
  · intro x n h1 h2 h3
    have := v2 x n h1 (by rw [rBo 346 x (by omega)]; exact h2) h3
    rw [hdnB, rBo 338 n (by omega), rBo 341 n (by omega), rBo 343 n (by omega), rBo 349 n (by omega), rBo 321 _ (by omega)] at this
    obtain ⟨u1, u2, u3, u4, u5, u6⟩ := this
    exact ⟨u1, u2, u3, u4, u5, fun v hv => by
      have := u6 v hv
      rw [rBo 339 _ (by omega), rBo 347 _ (by omega), rBo 348 _ (by omega)] at this
      exact this⟩

/-! part 77.rel -/
/-! THE TIE: everything -/
theorem TPr_of2 {I A R I2 A2 R2 : Nat → Nat → Int32} {p B nv nr : Nat} (h : TPr I A R p B nv nr) (hI : ∀ j k, 58 ≤ j → j < 318 → ¬ ((j - 58) % 52 = 0 ∧ (k = 2 ∨ k = 3)) → I2 j k = I j k) (hA : ∀ j k, 58 ≤ j → j < 318 → ¬ (j - 58) % 52 = 11 → A2 j k = A j k) (hR : ∀ j k, 319 ≤ j → j ≤ 328 → R2 j k = R j k) : TPr I2 A2 R2 p B nv nr := by
  obtain ⟨hp, hB, hw, h1, h2, h3, h4, h5⟩ := h
  refine ⟨hp, hB, ?_, by rw [hR _ _ (by omega) (by omega)]; exact h1, by rw [hR _ _ (by omega) (by omega)]; exact h2, fun m hm => by rw [hR _ _ (by omega) (by omega), hA _ _ (by omega) (by omega) (by omega)]; exact h3 m hm, fun x k hx hk => by rw [hR _ _ (by omega) (by omega), hA _ _ (by omega) (by omega) (by omega)]; exact h4 x k hx hk, fun r hr => ?_⟩
  · refine ⟨hw.1, hw.2.1, by rw [hI _ _ (by omega) (by omega) (by omega)]; exact hw.2.2.1, by rw [hI _ _ (by omega) (by omega) (by omega)]; exact hw.2.2.2.1, fun x hx => by rw [hA _ _ (by omega) (by omega) (by omega)]; exact hw.2.2.2.2.1 x hx, fun r hr => ?_⟩
    have e : nP I2 (B + 12 + 5 * r) = nP I (B + 12 + 5 * r) := by unfold nP; rw [hI _ _ (by omega) (by omega) (by omega)]
    rw [e]
    have w := hw.2.2.2.2.2 r hr
    exact ⟨w.1, by rw [hI _ _ (by omega) (by omega) (by omega)]; exact w.2.1, fun i hi => by rw [hA _ _ (by omega) (by omega) (by omega)]; exact w.2.2 i hi⟩
  · have e : nP I2 (B + 12 + 5 * r) = nP I (B + 12 + 5 * r) := by unfold nP; rw [hI _ _ (by omega) (by omega) (by omega)]
    obtain ⟨⟨a1, a2, a3, a4⟩, b, c, d, k, k7, ek⟩ := h5 r hr
    unfold TRl
    rw [e]
    refine ⟨⟨by rw [hR _ _ (by omega) (by omega), hI _ _ (by omega) (by omega) (by omega)]; exact a1, by rw [hR _ _ (by omega) (by omega), hI _ _ (by omega) (by omega) (by omega)]; exact a2, by rw [hR _ _ (by omega) (by omega), hI _ _ (by omega) (by omega) (by omega)]; exact a3, fun k hk => by rw [hR _ _ (by omega) (by omega), hR _ _ (by omega) (by omega), hA _ _ (by omega) (by omega) (by omega), hA _ _ (by omega) (by omega) (by omega)]; exact a4 k hk⟩, fun k hk => by rw [hA _ _ (by omega) (by omega) (by omega)]; exact b k hk, fun i hi => by rw [hA (B + 1) _ (by omega) (by omega) (by omega), hA (B + 12 + 5 * r + 1) _ (by omega) (by omega) (by omega)]; exact c i hi, fun x hx => ?_, k, k7, by rw [hI _ _ (by omega) (by omega) (by omega)]; exact ek⟩
    rw [hA _ _ (by omega) (by omega) (by omega), hA (B + 12 + 5 * r + 4) _ (by omega) (by omega) (by omega)]
    rcases d x hx with ⟨d1, d2⟩ | ⟨d1, ⟨k0, d2, d3⟩, d4⟩
    · exact Or.inl ⟨d1, fun k hk => by rw [hA _ _ (by omega) (by omega) (by omega)]; exact d2 k hk⟩
    · exact Or.inr ⟨d1, ⟨k0, d2, by rw [hA _ _ (by omega) (by omega) (by omega)]; exact d3⟩, fun k hk => by rw [hA _ _ (by omega) (by omega) (by omega), hA _ _ (by omega) (by omega) (by omega)]; exact d4 k hk⟩
/-- how many variables stand in a rule -/
def npc (A : Nat → Nat → Int32) (Q : Nat) : Nat := (if A (Q + 3) 0 = 0 then 0 else 1) + (if A (Q + 3) 1 = 0 then 0 else 1) + (if A (Q + 3) 2 = 0 then 0 else 1) + (if A (Q + 3) 3 = 0 then 0 else 1) + (if A (Q + 3) 4 = 0 then 0 else 1) + (if A (Q + 3) 5 = 0 then 0 else 1)
/-- the problems -/
def Q1 (I A J R : Nat → Nat → Int32) (np : Nat) : Prop := np ≤ 5 ∧ I 0 1 = nI np ∧ J 318 2 = nI np ∧ ∀ p, p < 5 → (∃ nv nr, TPr I A R p (58 + 52 * p) nv nr) ∧ (∀ v, v < 6 → R 322 (6 * p + v) = A (58 + 52 * p + 2) v) ∧ ∀ r, r < 8 → npc A (58 + 52 * p + 12 + 5 * r) = nP I (58 + 52 * p + 12 + 5 * r)
/-- the team -/
def Q2 (I A J R : Nat → Nat → Int32) (z sc : Nat) : Prop := TTe I A J R 2 z sc ∧ ∀ h, h < 5 → (A 3 h = R 330 h ∧ ∃ f, f ≤ 200 ∧ A 3 h = nI f) ∧ THt A R 2 h
/-- what is told of solvings -/
def Q3 (I A R : Nat → Nat → Int32) : Prop := ∀ p, p < 5 → (I (58 + 52 * p) 3 = 0 ∧ R 351 p = 0 ∧ R 352 p = 0) ∨ (I (58 + 52 * p) 3 = 1 ∧ R 351 p = 1 ∧ (∀ k, k < 6 → A (58 + 52 * p + 11) k = R 350 (6 * p + k)) ∧ ((R 352 p = 1 ∧ ∀ v, v < 6 → A (58 + 52 * p + 11) (6 + v) = R 353 (6 * p + v)) ∨ (R 352 p = 0 ∧ ∀ v, v < 6 → A (58 + 52 * p + 11) (6 + v) = -9)))
/-- the i-th node that the walk took in the solving that ended last -/
def Wn (A : Nat → Nat → Int32) (L : Nat → Nat → Int64) (R : Nat → Nat → Int32) (T B nv i : Nat) : Prop := ∃ c d, c < 1711 ∧ A (T + 9) i = nI c ∧ d ≤ 6 ∧ A (T + 2) c = nI d ∧ R 354 i = nI d ∧ (∀ v, v < d → vlo (L (T + 1) c) (nI v) = R 355 (6 * i + v)) ∧ (∀ v, d ≤ v → v < 6 → R 355 (6 * i + v) = -9) ∧ bdo (L (T + 1) c) = R 356 i ∧ A (T + 6) c = R 357 i ∧ ((A (T + 7) c = -1 ∧ R 359 i = 0 ∧ R 358 i = 0) ∨ ∃ f s, A (T + 7) c = nI f ∧ s ≤ 6 ∧ f + s ≤ 1711 ∧ d < nv ∧ A (B + 1) d = nI s ∧ R 359 i = nI s ∧ R 358 i = sm (fun y => if A (T + 3) (f + y) = 0 then 1 else 0) s 0 0 ∧ ∀ y, y < s → A (T + 3) (f + y) = R 360 (6 * i + y) ∧ A (T + 4) (f + y) = R 361 (6 * i + y))
def Q4 (I : Nat → Nat → Int32) (G : Nat → Nat → Nat) (A : Nat → Nat → Int32) (L : Nat → Nat → Int64) (J R : Nat → Nat → Int32) : Prop := ∃ T B wk nv, G 0 6 = T ∧ (T = 22 ∨ T = 34) ∧ G T 14 = B ∧ PrAt B ∧ I T 11 = nI wk ∧ J 318 48 = nI wk ∧ wk ≤ 250 ∧ I B 0 = nI nv ∧ nv ≤ 6 ∧ ∀ i, i < wk → Wn A L R T B nv i
/-- changes are counted -/
def Q5c (I J R : Nat → Nat → Int32) (n : Nat) : Prop := ∃ g, J 318 14 = nI g ∧ g ≤ n ∧ ∀ p, p < 5 → ∃ c c', I (58 + 52 * p) 2 = nI c ∧ R 329 p = nI c' ∧ c ≤ n ∧ c' ≤ g
/-- p is a problem -/
def Qn (J : Nat → Nat → Int32) (p : Nat) : Prop := ∃ np, np ≤ 5 ∧ J 318 2 = nI np ∧ p < np
theorem Qn_of {J J' : Nat → Nat → Int32} (h : J' 318 2 = J 318 2) : ∀ p, Qn J p → Qn J' p := fun p ⟨np, a, b, c⟩ => ⟨np, a, h.trans b, c⟩
/-- the node of the questions -/
def Q5 (I A J R : Nat → Nat → Int32) : Prop := (I 0 7 = -9 ∧ J 318 57 = -9) ∨ ∃ p ad nv c a c' a', (p < 5 ∧ Qn J p) ∧ I 0 7 = nI p ∧ J 318 57 = nI p ∧ I (58 + 52 * p) 0 = nI nv ∧ (ad ≤ nv ∧ nv ≤ 6) ∧ I 0 9 = nI ad ∧ J 318 59 = nI ad ∧ (∀ i, i < ad → ∃ m, m < szo A (58 + 52 * p) i ∧ A 18 i = nI m ∧ R 362 i = nI m) ∧ (∀ i, ad ≤ i → i < 6 → A 18 i = -1) ∧ I (58 + 52 * p) 2 = nI c ∧ I 0 8 = nI a ∧ R 329 p = nI c' ∧ J 318 58 = nI a' ∧ c < 1073741824 ∧ c' < 1073741824 ∧ ((c = a ∧ c' = a') ∨ (a < c ∧ a' < c'))
/-- what second() found -/
def Q6 (A J R : Nat → Nat → Int32) : Prop := (J 318 61 = -9 ∧ ∀ i, i < 6 → A 19 i = -9) ∨ ∃ m, m ≤ 6 ∧ J 318 61 = nI m ∧ (∀ i, i < m → A 19 i = R 363 i) ∧ ∀ i, m ≤ i → i < 6 → A 19 i = -9
/-- the last answer; likeTeam has no schedule -/
def Q7 (I J : Nat → Nat → Int32) : Prop := I 0 17 = J 318 1 ∧ I 8 1 = 0
/-- the solving -/
def Q8 (I : Nat → Nat → Int32) (G : Nat → Nat → Nat) (A : Nat → Nat → Int32) (L : Nat → Nat → Int64) (J R : Nat → Nat → Int32) (np z sc n : Nat) : Prop := I 0 3 = J 318 19 ∧ ∃ T, G 14 0 = T ∧ ((T = 22 ∧ G 0 6 = 34) ∨ (T = 34 ∧ G 0 6 = 22)) ∧ ((I 0 5 = -9 ∧ J 318 23 = -9) ∨ ∃ p nv nr kn nn dd tk tn hb fb, p < np ∧ I 0 5 = nI p ∧ J 318 23 = nI p ∧ TSv I G A L J R T 2 p (58 + 52 * p) nv nr kn nn dd tk tn hb z sc fb ∧ tk < 250 ∧ tn ≤ 500 * n ∧ hb ≤ 500 * n)
/-- booleans -/
def Q9 (R : Nat → Nat → Int32) : Prop := ∀ j x, (j = 344 ∨ j = 345 ∨ j = 372 ∨ j = 373) → R j x = 0 ∨ R j x = 1
/-- behind n calls -/
def Rel (n : Nat) (I : Nat → Nat → Int32) (G : Nat → Nat → Nat) (A : Nat → Nat → Int32) (L : Nat → Nat → Int64) (J R : Nat → Nat → Int32) : Prop := ∃ np z sc, Q1 I A J R np ∧ Q2 I A J R z sc ∧ Q3 I A R ∧ Q4 I G A L J R ∧ Q5c I J R n ∧ Q5 I A J R ∧ Q6 A J R ∧ Q7 I J ∧ Q8 I G A L J R np z sc n ∧ Q9 R
section FR
variable {I A : Nat → Nat → Int32} {G : Nat → Nat → Nat} {L : Nat → Nat → Int64} {J R I' A' : Nat → Nat → Int32} {G' : Nat → Nat → Nat} {L' : Nat → Nat → Int64} {J' R' : Nat → Nat → Int32} {np z sc n n' : Nat}
theorem Q1_of (h : Q1 I A J R np) (h1 : I' 0 1 = I 0 1) (h2 : J' 318 2 = J 318 2) (hI : ∀ j k, 58 ≤ j → j < 318 → ¬ ((j - 58) % 52 = 0 ∧ (k = 2 ∨ k = 3)) → I' j k = I j k) (hA : ∀ j k, 58 ≤ j → j < 318 → ¬ (j - 58) % 52 = 11 → A' j k = A j k) (hR : ∀ j k, 319 ≤ j → j ≤ 328 → R' j k = R j k) : Q1 I' A' J' R' np := by
  obtain ⟨a, b, c, d⟩ := h
  refine ⟨a, h1.trans b, h2.trans c, fun p hp => ?_⟩
  obtain ⟨⟨nv, nr, e⟩, f⟩ := d p hp
  exact ⟨⟨nv, nr, TPr_of2 e hI hA hR⟩, fun v hv => by rw [hR _ _ (by omega) (by omega), hA _ _ (by omega) (by omega) (by omega)]; exact f.1 v hv, fun r hr => by unfold npc nP; rw [hI _ _ (by omega) (by omega) (by omega)]; simp only [fun m => hA (58 + 52 * p + 12 + 5 * r + 3) m (by omega) (by omega) (by omega)]; exact f.2 r hr⟩
theorem Q2_of (h : Q2 I A J R z sc) (h1 : ∀ k, I' 2 k = I 2 k) (h2 : J' 318 15 = J 318 15) (h3 : J' 318 18 = J 318 18) (hA : ∀ j m, 3 ≤ j → j ≤ 7 → A' j m = A j m) (hR : ∀ j m, 330 ≤ j → j ≤ 334 → R' j m = R j m) : Q2 I' A' J' R' z sc := by
  obtain ⟨⟨t1, t2, t3, t4, t5, t6, t7, t8⟩, d⟩ := h
  refine ⟨⟨by rw [h1]; exact t1, by rw [h2]; exact t2, t3, t4, by rw [h1]; exact t5, by rw [h3]; exact t6, t7, fun i hi => by rw [hA _ _ (by omega) (by omega), hR _ _ (by omega) (by omega)]; exact t8 i hi⟩, fun x hx => ?_⟩
  have := d x hx
  unfold THt at this ⊢
  rw [hA 3 x (by omega) (by omega), hA (2 + 3) x (by omega) (by omega), hA (2 + 4) x (by omega) (by omega), hA (2 + 5) x (by omega) (by omega), hR 330 x (by omega) (by omega), hR 334 x (by omega) (by omega), hR 332 x (by omega) (by omega), hR 333 x (by omega) (by omega)]
  exact this
theorem Q3_of (h : Q3 I A R) (hI : ∀ p, p < 5 → I' (58 + 52 * p) 3 = I (58 + 52 * p) 3) (hA : ∀ p m, p < 5 → A' (58 + 52 * p + 11) m = A (58 + 52 * p + 11) m) (hR : ∀ j m, 350 ≤ j → j ≤ 353 → R' j m = R j m) : Q3 I' A' R' := fun p hp => by
  have := h p hp
  rw [hI p hp, hR 351 p (by omega) (by omega), hR 352 p (by omega) (by omega)]
  simp only [fun m => hA p m hp, fun m => hR 350 m (by omega) (by omega), fun m => hR 353 m (by omega) (by omega)]
  exact this
theorem Wn_of {T B nv nv' i : Nat} (h : Wn A L R T B nv i) (hv : nv ≤ nv') (hA : ∀ j m, T + 2 ≤ j → j ≤ T + 9 → A' j m = A j m) (hB : ∀ m, m < nv → A' (B + 1) m = A (B + 1) m) (hL : ∀ m, L' (T + 1) m = L (T + 1) m) (hR : ∀ j m, 354 ≤ j → j ≤ 361 → R' j m = R j m) : Wn A' L' R' T B nv' i := by
  obtain ⟨c, d, a1, a2, a3, a4, a5, a6, a7, a8, a9, a10⟩ := h
  refine ⟨c, d, a1, by rw [hA _ _ (by omega) (by omega)]; exact a2, a3, by rw [hA _ _ (by omega) (by omega)]; exact a4, by rw [hR _ _ (by omega) (by omega)]; exact a5, fun v hv => by rw [hL, hR _ _ (by omega) (by omega)]; exact a6 v hv, fun v h1 h2 => by rw [hR _ _ (by omega) (by omega)]; exact a7 v h1 h2, by rw [hL, hR _ _ (by omega) (by omega)]; exact a8, by rw [hA _ _ (by omega) (by omega), hR _ _ (by omega) (by omega)]; exact a9, ?_⟩
  rcases a10 with ⟨b1, b2, b3⟩ | ⟨f, s, b1, b2, b3, b4, b5, b6, b7, b8⟩
  · exact Or.inl ⟨by rw [hA _ _ (by omega) (by omega)]; exact b1, by rw [hR _ _ (by omega) (by omega)]; exact b2, by rw [hR _ _ (by omega) (by omega)]; exact b3⟩
  · refine Or.inr ⟨f, s, by rw [hA _ _ (by omega) (by omega)]; exact b1, b2, b3, by omega, by rw [hB _ b4]; exact b5, by rw [hR _ _ (by omega) (by omega)]; exact b6, ?_, fun y hy => by rw [hA _ _ (by omega) (by omega), hA _ _ (by omega) (by omega), hR _ _ (by omega) (by omega), hR _ _ (by omega) (by omega)]; exact b8 y hy⟩
    rw [hR _ _ (by omega) (by omega), b7]
    exact sm_c _ _ _ (fun i _ _ => by rw [hA _ _ (by omega) (by omega)])
theorem Q4_of (h : Q4 I G A L J R) (h0 : G' 0 6 = G 0 6) (hG : ∀ T, G 0 6 = T → G' T 14 = G T 14) (hI : ∀ T, G 0 6 = T → I' T 11 = I T 11) (hJ : J' 318 48 = J 318 48) (hA : ∀ T j m, G 0 6 = T → T + 2 ≤ j → j ≤ T + 9 → A' j m = A j m) (hL : ∀ T m, G 0 6 = T → L' (T + 1) m = L (T + 1) m) (hR : ∀ j m, 354 ≤ j → j ≤ 361 → R' j m = R j m) (hsz : ∀ B nv, PrAt B → I B 0 = nI nv → nv ≤ 6 → ∃ nv', nv ≤ nv' ∧ nv' ≤ 6 ∧ I' B 0 = nI nv' ∧ ∀ m, m < nv → A' (B + 1) m = A (B + 1) m) : Q4 I' G' A' L' J' R' := by
  obtain ⟨T, B, wk, nv, a1, a2, a3, a4, a5, a6, a7, a9, a10, a8⟩ := h
  obtain ⟨nv', v1, v2, v3, v4⟩ := hsz B nv a4 a9 a10
  exact ⟨T, B, wk, nv', by rw [h0]; exact a1, a2, by rw [hG T a1]; exact a3, a4, by rw [hI T a1]; exact a5, by rw [hJ]; exact a6, a7, v3, v2, fun i hi => Wn_of (a8 i hi) v1 (fun j m => hA T j m a1) v4 (fun m => hL T m a1) hR⟩
theorem Q5c_of (h : Q5c I J R n) (hn : n ≤ n') (h1 : J' 318 14 = J 318 14) (hI : ∀ p, p < 5 → I' (58 + 52 * p) 2 = I (58 + 52 * p) 2) (hR : ∀ m, R' 329 m = R 329 m) : Q5c I' J' R' n' := by
  obtain ⟨g, a, b, c⟩ := h
  refine ⟨g, h1.trans a, by omega, fun p hp => ?_⟩
  obtain ⟨x, y, c1, c2, c3, c4⟩ := c p hp
  exact ⟨x, y, by rw [hI p hp]; exact c1, by rw [hR]; exact c2, by omega, c4⟩
theorem Q5_of (h : Q5 I A J R) (h1 : ∀ k, 7 ≤ k → k ≤ 9 → I' 0 k = I 0 k) (h2 : ∀ k, 57 ≤ k → k ≤ 59 → J' 318 k = J 318 k) (hI : ∀ p k, p < 5 → k ≠ 1 → k ≠ 3 → I' (58 + 52 * p) k = I (58 + 52 * p) k) (hA : ∀ m, A' 18 m = A 18 m) (hB : ∀ p m, p < 5 → A' (58 + 52 * p + 1) m = A (58 + 52 * p + 1) m) (hR : ∀ m, R' 362 m = R 362 m) (hR2 : ∀ m, R' 329 m = R 329 m) (hQ : ∀ p, Qn J p → Qn J' p) : Q5 I' A' J' R' := by
  rcases h with ⟨a, b⟩ | ⟨p, ad, nv, c, a, c', a', ⟨q1, q1'⟩, q2, q3, q4, q5, q6, q7, q8, q9, q10, q11, q12, q13, q14, q15, q16⟩
  · exact Or.inl ⟨by rw [h1 7 (by omega) (by omega)]; exact a, by rw [h2 57 (by omega) (by omega)]; exact b⟩
  · refine Or.inr ⟨p, ad, nv, c, a, c', a', ⟨q1, hQ p q1'⟩, by rw [h1 7 (by omega) (by omega)]; exact q2, by rw [h2 57 (by omega) (by omega)]; exact q3, by rw [hI p 0 q1 (by omega) (by omega)]; exact q4, q5, by rw [h1 9 (by omega) (by omega)]; exact q6, by rw [h2 59 (by omega) (by omega)]; exact q7, fun i hi => ?_, fun i h1 h2 => by rw [hA]; exact q9 i h1 h2, by rw [hI p 2 q1 (by omega) (by omega)]; exact q10, by rw [h1 8 (by omega) (by omega)]; exact q11, by rw [hR2]; exact q12, by rw [h2 58 (by omega) (by omega)]; exact q13, q14, q15, q16⟩
    unfold szo
    rw [hB p _ q1, hA, hR]
    exact q8 i hi
theorem Q6_of (h : Q6 A J R) (h1 : J' 318 61 = J 318 61) (hA : ∀ m, A' 19 m = A 19 m) (hR : ∀ m, R' 363 m = R 363 m) : Q6 A' J' R' := by
  unfold Q6 at h ⊢
  rw [h1]
  simp only [hA, hR]
  exact h
theorem TSv_of {T p nv nr kn nn dd tk tn hb : Nat} {fb : Nat → Option (Nat × Nat)} (h : TSv I G A L J R T 2 p (58 + 52 * p) nv nr kn nn dd tk tn hb z sc fb) (hI : ∀ j k, (j = 2 ∨ j = 14 ∨ j = T ∨ (58 ≤ j ∧ j < 318 ∧ ¬ ((j - 58) % 52 = 0 ∧ (k = 2 ∨ k = 3)))) → I' j k = I j k) (hG : ∀ j k, j = 14 ∨ j = T → G' j k = G j k) (hA : ∀ j m, (j = 3 ∨ j = 4 ∨ j = 5 ∨ j = 6 ∨ j = 7 ∨ j = 15 ∨ j = 16 ∨ (T + 2 ≤ j ∧ j ≤ T + 9) ∨ (58 ≤ j ∧ j < 318 ∧ ¬ (j - 58) % 52 = 11)) → A' j m = A j m) (hL : ∀ m, L' (T + 1) m = L (T + 1) m) (hJ : ∀ k, (k = 15 ∨ k = 18 ∨ k = 24 ∨ k = 28 ∨ k = 29 ∨ k = 30 ∨ k = 31) → J' 318 k = J 318 k) (hR : ∀ j m, (319 ≤ j ∧ j ≤ 328 ∨ 331 ≤ j ∧ j ≤ 349) → R' j m = R j m) : TSv I' G' A' L' J' R' T 2 p (58 + 52 * p) nv nr kn nn dd tk tn hb z sc fb := by
  obtain ⟨⟨hT, hGB, hPr, hmt, hX, hF, hd1, hd2, ht1, ht2, hw⟩, hE, hGT, hGE, hkn, hhc, hH, hTe, hlim, htn1, htn2, hT46, ht250⟩ := h
  have hp := hPr.1
  have hfi : fi A' T kn = fi A T kn := by funext m; unfold fi; rw [os_c (A := A) (A' := A') (fun c _ => hA _ _ (by omega))]
  obtain ⟨t1, t2, t3, t4, t5, t6, t7, t8⟩ := hTe
  refine ⟨⟨hT, by rw [hG _ _ (Or.inr rfl)]; exact hGB, TPr_of2 hPr (fun j k h1 h2 h3 => hI j k (by omega)) (fun j k h1 h2 h3 => hA j k (by omega)) (fun j k h1 h2 => hR j k (by omega)), by rw [hI _ _ (by omega)]; exact hmt, TT_fr hX (hI _ _ (by omega)) (fun j m h1 h2 => hA j m (by omega)) (fun m => hA _ _ (by omega)) hL (hJ 29 (by omega)) (fun j m h1 h2 h3 => hR j m (by omega)), FC_c hF (fun m => hA _ _ (by omega)) (fun x _ => hR _ _ (by omega)) (fun x _ => hR _ _ (by omega)), by rw [hI _ _ (by omega)]; exact hd1, by rw [hJ 30 (by omega)]; exact hd2, by rw [hI _ _ (by omega)]; exact ht1, by rw [hJ 31 (by omega)]; exact ht2, fun i hi => ?_⟩, hE, by rw [hG _ _ (Or.inl rfl)]; exact hGT, by rw [hG _ _ (Or.inl rfl)]; exact hGE, hkn, ?_, fun x hx => ?_, ⟨by rw [hI _ _ (by omega)]; exact t1, by rw [hJ 15 (by omega)]; exact t2, t3, t4, by rw [hI _ _ (by omega)]; exact t5, by rw [hJ 18 (by omega)]; exact t6, t7, fun i hi => by rw [hA _ _ (by omega), hR _ _ (by omega)]; exact t8 i hi⟩, by rw [hI _ _ (by omega), hJ 24 (by omega)]; exact hlim, by rw [hI _ _ (by omega)]; exact htn1, by rw [hJ 28 (by omega)]; exact htn2, hT46, ht250⟩
  · obtain ⟨m, m1, m2, m3, m4⟩ := hw i hi
    exact ⟨m, m1, by rw [hR _ _ (by omega)]; exact m2, by rw [hR _ _ (by omega)]; exact m3, by rw [hfi, hA _ _ (by omega)]; exact m4⟩
  · have e : hc A' = hc A := by unfold hc; simp only [fun m => hA 15 m (by omega)]
    omega
  · have := hH x hx
    unfold THo THa THt at this ⊢
    rw [hfi, hA 15 x (by omega), hA 16 x (by omega), hA (2 + 1) x (by omega), hA (2 + 3) x (by omega), hA (2 + 4) x (by omega), hA (2 + 5) x (by omega), hR 337 x (by omega), hR 336 x (by omega), hR 335 x (by omega), hR 334 x (by omega), hR 333 x (by omega), hR 332 x (by omega)]
    simp only [fun m => hR 343 m (by omega), fun m => hR 344 m (by omega)]
    exact this
theorem Q8_of (h : Q8 I G A L J R np z sc n) (hn : n ≤ n') (h3 : I' 0 3 = I 0 3) (h5 : I' 0 5 = I 0 5) (j19 : J' 318 19 = J 318 19) (j23 : J' 318 23 = J 318 23) (g0 : G' 0 6 = G 0 6) (hI : ∀ j k, (j = 2 ∨ j = 14 ∨ (22 ≤ j ∧ j < 46) ∨ (58 ≤ j ∧ j < 318 ∧ ¬ ((j - 58) % 52 = 0 ∧ (k = 2 ∨ k = 3)))) → I' j k = I j k) (hG : ∀ j k, j = 14 ∨ (22 ≤ j ∧ j < 46) → G' j k = G j k) (hA : ∀ j m, (j = 3 ∨ j = 4 ∨ j = 5 ∨ j = 6 ∨ j = 7 ∨ j = 15 ∨ j = 16 ∨ (22 ≤ j ∧ j < 46) ∨ (58 ≤ j ∧ j < 318 ∧ ¬ (j - 58) % 52 = 11)) → A' j m = A j m) (hL : ∀ j m, 22 ≤ j → j < 46 → L' j m = L j m) (hJ : ∀ k, (k = 15 ∨ k = 18 ∨ k = 24 ∨ k = 28 ∨ k = 29 ∨ k = 30 ∨ k = 31) → J' 318 k = J 318 k) (hR : ∀ j m, (319 ≤ j ∧ j ≤ 328 ∨ 331 ≤ j ∧ j ≤ 349) → R' j m = R j m) : Q8 I' G' A' L' J' R' np z sc n' := by
  obtain ⟨a, T, b, c, d⟩ := h
  refine ⟨by rw [h3, j19]; exact a, T, by rw [hG _ _ (Or.inl rfl)]; exact b, by rw [g0]; exact c, ?_⟩
  rw [h5, j23]
  have hTr : 22 ≤ T ∧ T + 11 < 46 := by omega
  rcases d with d | ⟨p, nv, nr, kn, nn, dd, tk, tn, hb, fb, d1, d2, d3, d4, d5, d6, d7⟩
  · exact Or.inl d
  · exact Or.inr ⟨p, nv, nr, kn, nn, dd, tk, tn, hb, fb, d1, d2, d3, TSv_of d4 (fun j k h => hI j k (by omega)) (fun j k h => hG j k (by omega)) (fun j m h => hA j m (by omega)) (fun m => hL _ _ (by omega) (by omega)) hJ hR, d5, by omega, by omega⟩
/-- what doesn't touch what counts -/
theorem Rel_fr (h : Rel n I G A L J R) (hn : n ≤ n') (hI : ∀ j k, j = 0 ∨ j = 2 ∨ j = 8 ∨ j = 14 ∨ (22 ≤ j ∧ j < 46) ∨ (58 ≤ j ∧ j < 318) → I' j k = I j k) (hG : ∀ j k, j = 0 ∨ j = 14 ∨ (22 ≤ j ∧ j < 46) → G' j k = G j k) (hA : ∀ j m, (3 ≤ j ∧ j ≤ 7) ∨ j = 15 ∨ j = 16 ∨ j = 18 ∨ j = 19 ∨ (22 ≤ j ∧ j < 46) ∨ (58 ≤ j ∧ j < 318) → A' j m = A j m) (hL : ∀ j m, 22 ≤ j → j < 46 → L' j m = L j m) (hJ : ∀ k, k ≠ 0 → k ≠ 64 → k ≠ 65 → J' 318 k = J 318 k) (hR : ∀ j m, 319 ≤ j → j ≤ 363 → R' j m = R j m) (h9 : Q9 R') : Rel n' I' G' A' L' J' R' := by
  obtain ⟨np, z, sc, q1, q2, q3, q4, q5c, q5, q6, q7, q8, q9⟩ := h
  have hT : G 0 6 = 22 ∨ G 0 6 = 34 := by obtain ⟨T, _, _, _, a, b, _⟩ := q4; omega
  refine ⟨np, z, sc, Q1_of q1 (hI _ _ (by omega)) (hJ _ (by decide) (by decide) (by decide)) (fun j k h1 h2 _ => hI j k (by omega)) (fun j k h1 h2 _ => hA j k (by omega)) (fun j k h1 h2 => hR j k (by omega) (by omega)), Q2_of q2 (fun k => hI _ _ (by omega)) (hJ _ (by decide) (by decide) (by decide)) (hJ _ (by decide) (by decide) (by decide)) (fun j m h1 h2 => hA j m (by omega)) (fun j m h1 h2 => hR j m (by omega) (by omega)), Q3_of q3 (fun p hp => hI _ _ (by omega)) (fun p m hp => hA _ _ (by omega)) (fun j m h1 h2 => hR j m (by omega) (by omega)), Q4_of q4 (hG _ _ (by omega)) (fun T h => hG _ _ (by omega)) (fun T h => hI _ _ (by omega)) (hJ _ (by decide) (by decide) (by decide)) (fun T j m h1 h2 h3 => hA j m (by omega)) (fun T m h => hL _ _ (by omega) (by omega)) (fun j m h1 h2 => hR j m (by omega) (by omega)) ?_, Q5c_of q5c hn (hJ _ (by decide) (by decide) (by decide)) (fun p hp => hI _ _ (by omega)) (fun m => hR _ _ (by omega) (by omega)), Q5_of q5 (fun k _ _ => hI _ _ (by omega)) (fun k h1 h2 => hJ k (by omega) (by omega) (by omega)) (fun p k hp _ _ => hI _ _ (by omega)) (fun m => hA _ _ (by omega)) (fun p m hp => hA _ _ (by omega)) (fun m => hR _ _ (by omega) (by omega)) (fun m => hR _ _ (by omega) (by omega)) (Qn_of (hJ _ (by decide) (by decide) (by decide))), Q6_of q6 (hJ _ (by decide) (by decide) (by decide)) (fun m => hA _ _ (by omega)) (fun m => hR _ _ (by omega) (by omega)), ?_, Q8_of q8 hn (hI _ _ (by omega)) (hI _ _ (by omega)) (hJ _ (by decide) (by decide) (by decide)) (hJ _ (by decide) (by decide) (by decide)) (hG _ _ (by omega)) (fun j k h => hI j k (by omega)) (fun j k h => hG j k (by omega)) (fun j m h => hA j m (by omega)) hL (fun k h => hJ k (by omega) (by omega) (by omega)) (fun j m h => hR j m (by omega) (by omega)), h9⟩
  · intro B nv ⟨p, hp, d⟩ e1 e2
    exact ⟨nv, Nat.le_refl _, e2, by rw [hI _ _ (by omega)]; exact e1, fun m _ => hA _ _ (by omega)⟩
  · exact ⟨by rw [hI _ _ (by omega), hJ _ (by decide) (by decide) (by decide)]; exact q7.1, by rw [hI _ _ (by omega)]; exact q7.2⟩
theorem up0 {k : Nat} (hk : k ≠ 0) : up2 J 318 0 0 318 k = J 318 k := up2_k hk
/-- the reference's 'thrown' -/
theorem Rel_J0 (h : Rel n I G A L J R) : Rel (n + 1) I G A L (up2 J 318 0 0) R := Rel_fr h (by omega) (fun _ _ _ => rfl) (fun _ _ _ => rfl) (fun _ _ _ => rfl) (fun _ _ _ _ => rfl) (fun k hk _ _ => up0 hk) (fun _ _ _ _ => rfl) (by obtain ⟨_, _, _, _, _, _, _, _, _, _, _, _, h⟩ := h; exact h)
end FR

/-! part 78.calls -/
/-! THE TIE: the calls that are small -/
theorem t_wi (a lo hi : Int32) : f_X6_isWithin a lo hi = some (if ¬ a < lo ∧ ¬ hi < a then 1 else 0) ∧ f_X7_in a lo hi = some (if ¬ a < lo ∧ ¬ hi < a then 1 else 0) := by
  unfold f_X6_isWithin f_X7_in
  by_cases h1 : a < lo <;> by_cases h2 : hi < a <;> simp [h1, h2]
/-- a number in a range of Nats -/
theorem t_rng {a : Int32} {hi : Nat} (hhi : hi < 1073741824) : (∃ x, x ≤ hi ∧ a = nI x) ∨ ¬ (¬ a < 0 ∧ ¬ nI hi < a) := by
  by_cases h : ¬ a < 0 ∧ ¬ nI hi < a
  · obtain ⟨x, h1, h2⟩ := nI_of2 (M := nI hi) (n := hi) (nI_toInt (by omega)) h.1 (Int32.not_lt.mp h.2)
    exact Or.inl ⟨x, h1, h2⟩
  · exact Or.inr h
theorem t_rng1 {x hi : Nat} (hhi : hi < 1073741824) (hx : x ≤ hi) : ¬ nI x < 0 ∧ ¬ nI hi < nI x := ⟨nI_pos (by omega), nI_nlt hx (by omega)⟩
section CA
variable {I A : Nat → Nat → Int32} {G : Nat → Nat → Nat} {L : Nat → Nat → Int64} {J R : Nat → Nat → Int32} {n : Nat}
/-- is it a problem? -/
theorem t_isP {np : Nat} {a : Int32} (h1 : I 0 1 = nI np) (h2 : J 318 2 = nI np) (hn : np ≤ 5) : (∃ p, p < np ∧ a = nI p ∧ f_X6_isProblem I a = some 1 ∧ f_X7_isProblem J a = some 1) ∨ (f_X6_isProblem I a = some 0 ∧ f_X7_isProblem J a = some 0) := by
  unfold f_X6_isProblem f_X7_isProblem
  rw [h1, h2, (t_wi _ _ _).1, (t_wi _ _ _).2]
  by_cases h : ¬ a < 0 ∧ ¬ nI np - 1 < a
  · rw [if_pos h]
    by_cases h0 : np = 0
    · exfalso
      subst h0
      have e : nI 0 - 1 = (-1 : Int32) := by decide
      rw [e] at h
      have a1 := Int32.not_lt.mp h.1
      have a2 := Int32.not_lt.mp h.2
      exact absurd (Int32.le_trans a1 a2) (by decide)
    · rw [nI_s1 (by omega)] at h
      obtain ⟨x, x1, x2⟩ := nI_of2 (M := nI (np - 1)) (n := np - 1) (nI_toInt (by omega)) h.1 (Int32.not_lt.mp h.2)
      exact Or.inl ⟨x, by omega, x2, gd_t (Or.inr rfl), gd_t (Or.inr rfl)⟩
  · rw [if_neg h]
    exact Or.inr ⟨gd_t (Or.inl rfl), gd_t (Or.inl rfl)⟩
theorem k_problem (h : Rel n I G A L J R) : ∃ r I' J', f_X6_problem I = some (r, I') ∧ f_X7_problem J = some (r, J') ∧ Rel (n + 1) I' G A L J' R := by
  have hr := Rel_J0 h
  obtain ⟨np, z, sc, ⟨a1, a2, a3, a4⟩, q2, q3, q4, q5c, q5, q6, q7, ⟨b1, T, b2, b3, b4⟩, q9⟩ := h
  have hu : I 0 5 = J 318 23 := by rcases b4 with ⟨x, y⟩ | ⟨_, _, _, _, _, _, _, _, _, _, _, x, y, _⟩ <;> rw [x, y]
  have e23 : up2 J 318 0 0 318 23 = J 318 23 := up0 (by decide)
  have e2 : up2 J 318 0 0 318 2 = nI np := (up0 (by decide)).trans a3
  by_cases hw : I 0 5 = -9
  · have hw2 : J 318 23 = -9 := by rw [← hu]; exact hw
    by_cases h5 : np = 5
    · refine ⟨-3, I, _, ?_, ?_, hr⟩
      · unfold f_X6_problem
        rw [if_pos hw, a2, if_neg (show ¬ nI np < 5 from nI_nlt (b := 5) (by omega) (by omega))]
      · unfold f_X7_problem
        simp only [bd]
        rw [e23, e2, if_pos hw2, if_pos (show nI np = 5 by rw [h5]; rfl)]
    · refine ⟨nI np, up2 I 0 1 (nI (np + 1)), up2 (up2 J 318 0 0) 318 2 (nI (np + 1)), ?_, ?_, ?_⟩
      · unfold f_X6_problem
        simp only [bd]
        rw [if_pos hw, a2, if_pos (show nI np < 5 from nI_lt (b := 5) (by omega) (by omega)), nI_1]
      · unfold f_X7_problem
        simp only [bd]
        rw [e23, e2, if_pos hw2, if_neg (show ¬ nI np = 5 from fun q => by
          have q : nI np = nI 5 := q
          rw [t_eq (by omega) (by omega)] at q; omega), nI_1, up2_s, nI_pred]
      · have hI : ∀ j k, ¬ (j = 0 ∧ k = 1) → up2 I 0 1 (nI (np + 1)) j k = I j k := fun j k q => by unfold up2; rw [if_neg q]
        have hJ : ∀ k, k ≠ 0 → k ≠ 2 → up2 (up2 J 318 0 0) 318 2 (nI (np + 1)) 318 k = J 318 k := fun k h1 h2 => by rw [up2_k h2, up2_k h1]
        have hT : G 0 6 = 22 ∨ G 0 6 = 34 := by omega
        refine ⟨np + 1, z, sc, ?_, Q2_of q2 (fun k => hI _ _ (by omega)) (hJ _ (by decide) (by decide)) (hJ _ (by decide) (by decide)) (fun _ _ _ _ => rfl) (fun _ _ _ _ => rfl), Q3_of q3 (fun p hp => hI _ _ (by omega)) (fun _ _ _ => rfl) (fun _ _ _ _ => rfl), Q4_of q4 rfl (fun _ _ => rfl) (fun T h => hI _ _ (by omega)) (hJ _ (by decide) (by decide)) (fun _ _ _ _ _ _ => rfl) (fun _ _ _ => rfl) (fun _ _ _ _ => rfl) (fun B nv hB e1 e2 => ⟨nv, Nat.le_refl _, e2, by rw [hI _ _ (by have := pr_ge hB; omega)]; exact e1, fun _ _ => rfl⟩), Q5c_of q5c (by omega) (hJ _ (by decide) (by decide)) (fun p hp => hI _ _ (by omega)) (fun _ => rfl), Q5_of q5 (fun k _ _ => hI _ _ (by omega)) (fun k _ _ => hJ k (by omega) (by omega)) (fun p k hp _ _ => hI _ _ (by omega)) (fun _ => rfl) (fun _ _ _ => rfl) (fun _ => rfl) (fun _ => rfl) (fun p ⟨m, m1, m2, m3⟩ => ⟨np + 1, by omega, up2_s _ _ _ _, by have := (t_eq (by omega) (by omega)).mp (m2.symm.trans a3); omega⟩), Q6_of q6 (hJ _ (by decide) (by decide)) (fun _ => rfl) (fun _ => rfl), ?_, ⟨by rw [hI _ _ (by omega), hJ _ (by decide) (by decide)]; exact b1, T, b2, b3, Or.inl ⟨by rw [hI _ _ (by omega)]; exact hw, by rw [hJ _ (by decide) (by decide)]; exact hw2⟩⟩, q9⟩
        · have := Q1_of (np := np) (I' := I) (A' := A) (J' := J) (R' := R) ⟨a1, a2, a3, a4⟩ rfl rfl (fun _ _ _ _ _ => rfl) (fun _ _ _ _ _ => rfl) (fun _ _ _ _ => rfl)
          refine ⟨by omega, up2_s _ _ _ _, up2_s _ _ _ _, fun p hp => ?_⟩
          obtain ⟨⟨nv, nr, e⟩, f⟩ := a4 p hp
          exact ⟨⟨nv, nr, TPr_of2 e (fun j k _ _ _ => hI j k (by omega)) (fun _ _ _ _ _ => rfl) (fun _ _ _ _ => rfl)⟩, f.1, fun r hr => by unfold nP; rw [hI _ _ (by omega)]; exact f.2 r hr⟩
        · exact ⟨by rw [hI _ _ (by omega), hJ _ (by decide) (by decide)]; exact q7.1, by rw [hI _ _ (by omega)]; exact q7.2⟩
  · have hw2 : ¬ J 318 23 = -9 := by rw [← hu]; exact hw
    refine ⟨-2, I, _, ?_, ?_, hr⟩
    · unfold f_X6_problem; rw [if_neg hw]
    · unfold f_X7_problem
      simp only [bd]
      rw [e23, if_neg hw2]
end CA

/-! part 79.relq -/
/-! THE TIE: Rel with one part anew -/
section RQ
variable {I A : Nat → Nat → Int32} {G : Nat → Nat → Nat} {L : Nat → Nat → Int64} {J R I' A' J' R' : Nat → Nat → Int32} {n z' sc' np z sc : Nat}
theorem Rel_u (h : Rel n I G A L J R) : I 0 5 = J 318 23 := by
  obtain ⟨np, z, sc, q1, q2, q3, q4, q5c, q5, q6, q7, ⟨b1, T, b2, b3, b4⟩, q9⟩ := h
  rcases b4 with ⟨x, y⟩ | ⟨_, _, _, _, _, _, _, _, _, _, _, x, y, _⟩ <;> rw [x, y]
theorem Rel_T (h : Rel n I G A L J R) : G 0 6 = 22 ∨ G 0 6 = 34 := by
  obtain ⟨np, z, sc, q1, q2, q3, ⟨T, _, _, _, a, b, _⟩, _⟩ := h
  omega
theorem Q8_u (h : Q8 I G A L J R np z sc n) (hw : I 0 5 = -9) (h3 : I' 0 3 = I 0 3) (h5 : I' 0 5 = I 0 5) (j3 : J' 318 19 = J 318 19) (j5 : J' 318 23 = J 318 23) {z' sc' n' np' : Nat} : Q8 I' G A' L J' R' np' z' sc' n' := by
  obtain ⟨b1, T, b2, b3, b4⟩ := h
  have hu : J 318 23 = -9 := by
    rcases b4 with ⟨_, y⟩ | ⟨_, _, _, _, _, _, _, _, _, _, _, x, y, _⟩
    · exact y
    · rw [y, ← x]; exact hw
  exact ⟨by rw [h3, j3]; exact b1, T, b2, b3, Or.inl ⟨by rw [h5]; exact hw, by rw [j5]; exact hu⟩⟩
theorem Rel_Q2 (h : Rel n I G A L J R) (hw : I 0 5 = -9) (hI : ∀ j k, ¬ (j = 2) → I' j k = I j k) (hA : ∀ j m, ¬ (3 ≤ j ∧ j ≤ 7) → A' j m = A j m) (hJ : ∀ k, ¬ (k = 0 ∨ k = 15 ∨ k = 18) → J' 318 k = J 318 k) (hR : ∀ j m, ¬ (330 ≤ j ∧ j ≤ 334) → R' j m = R j m) (hq : Q2 I' A' J' R' z' sc') : Rel (n + 1) I' G A' L J' R' := by
  have hT := Rel_T h
  obtain ⟨np, z, sc, q1, q2, q3, q4, q5c, q5, q6, q7, q8, q9⟩ := h
  exact ⟨np, z', sc', Q1_of q1 (hI _ _ (by omega)) (hJ _ (by omega)) (fun j k h1 h2 h3 => hI j k (by omega)) (fun j k h1 h2 h3 => hA j k (by omega)) (fun j k h1 h2 => hR j k (by omega)), hq, Q3_of q3 (fun p hp => hI _ _ (by omega)) (fun p m hp => hA _ _ (by omega)) (fun j m h1 h2 => hR j m (by omega)), Q4_of q4 rfl (fun _ _ => rfl) (fun T h => hI _ _ (by omega)) (hJ _ (by omega)) (fun T j m h1 h2 h3 => hA j m (by omega)) (fun _ _ _ => rfl) (fun j m h1 h2 => hR j m (by omega)) (fun B nv hB e1 e2 => ⟨nv, Nat.le_refl _, e2, by rw [hI _ _ (by have := pr_ge hB; omega)]; exact e1, fun m _ => hA _ _ (by have := pr_ge hB; omega)⟩), Q5c_of q5c (by omega) (hJ _ (by omega)) (fun p hp => hI _ _ (by omega)) (fun m => hR _ _ (by omega)), Q5_of q5 (fun k _ _ => hI _ _ (by omega)) (fun k _ _ => hJ k (by omega)) (fun p k hp _ _ => hI _ _ (by omega)) (fun m => hA _ _ (by omega)) (fun p m hp => hA _ _ (by omega)) (fun m => hR _ _ (by omega)) (fun m => hR _ _ (by omega)) (Qn_of (hJ _ (by omega))), Q6_of q6 (hJ _ (by omega)) (fun m => hA _ _ (by omega)) (fun m => hR _ _ (by omega)), ⟨by rw [hI _ _ (by omega), hJ _ (by omega)]; exact q7.1, by rw [hI _ _ (by omega)]; exact q7.2⟩, Q8_u q8 hw (hI _ _ (by omega)) (hI _ _ (by omega)) (hJ _ (by omega)) (hJ _ (by omega)), (fun j x h => by rw [hR j x (by omega)]; exact q9 j x h)⟩
theorem Rel_Q7 (h : Rel n I G A L J R) (hI : ∀ j k, ¬ (j = 0 ∧ k = 17) → I' j k = I j k) (hA : ∀ j m, ¬ (j = 20) → A' j m = A j m) (hJ : ∀ k, ¬ (k = 0 ∨ k = 1) → J' 318 k = J 318 k) (hR : ∀ j m, ¬ (j = 364) → R' j m = R j m) (hq : I' 0 17 = J' 318 1) : Rel (n + 1) I' G A' L J' R' := by
  have hT := Rel_T h
  obtain ⟨np, z, sc, q1, q2, q3, q4, q5c, q5, q6, q7, q8, q9⟩ := h
  exact ⟨np, z, sc, Q1_of q1 (hI _ _ (by omega)) (hJ _ (by omega)) (fun j k h1 h2 h3 => hI j k (by omega)) (fun j k h1 h2 h3 => hA j k (by omega)) (fun j k h1 h2 => hR j k (by omega)), Q2_of q2 (fun k => hI _ _ (by omega)) (hJ _ (by omega)) (hJ _ (by omega)) (fun j m h1 h2 => hA j m (by omega)) (fun j m h1 h2 => hR j m (by omega)), Q3_of q3 (fun p hp => hI _ _ (by omega)) (fun p m hp => hA _ _ (by omega)) (fun j m h1 h2 => hR j m (by omega)), Q4_of q4 rfl (fun _ _ => rfl) (fun T h => hI _ _ (by omega)) (hJ _ (by omega)) (fun T j m h1 h2 h3 => hA j m (by omega)) (fun _ _ _ => rfl) (fun j m h1 h2 => hR j m (by omega)) (fun B nv hB e1 e2 => ⟨nv, Nat.le_refl _, e2, by rw [hI _ _ (by have := pr_ge hB; omega)]; exact e1, fun m _ => hA _ _ (by have := pr_ge hB; omega)⟩), Q5c_of q5c (by omega) (hJ _ (by omega)) (fun p hp => hI _ _ (by omega)) (fun m => hR _ _ (by omega)), Q5_of q5 (fun k _ _ => hI _ _ (by omega)) (fun k _ _ => hJ k (by omega)) (fun p k hp _ _ => hI _ _ (by omega)) (fun m => hA _ _ (by omega)) (fun p m hp => hA _ _ (by omega)) (fun m => hR _ _ (by omega)) (fun m => hR _ _ (by omega)) (Qn_of (hJ _ (by omega))), Q6_of q6 (hJ _ (by omega)) (fun m => hA _ _ (by omega)) (fun m => hR _ _ (by omega)), ⟨hq, by rw [hI _ _ (by omega)]; exact q7.2⟩, Q8_of q8 (by omega) (hI _ _ (by omega)) (hI _ _ (by omega)) (hJ _ (by omega)) (hJ _ (by omega)) rfl (fun j k h => hI j k (by omega)) (fun _ _ _ => rfl) (fun j m h => hA j m (by omega)) (fun _ _ _ _ => rfl) (fun k h => hJ k (by omega)) (fun j m h => hR j m (by omega)), (fun j x h => by rw [hR j x (by omega)]; exact q9 j x h)⟩
theorem Rel_Q5 (h : Rel n I G A L J R) (hI : ∀ j k, ¬ (j = 0 ∧ 7 ≤ k ∧ k ≤ 9) → I' j k = I j k) (hA : ∀ j m, ¬ (j = 18) → A' j m = A j m) (hJ : ∀ k, ¬ (k = 0 ∨ 57 ≤ k ∧ k ≤ 59) → J' 318 k = J 318 k) (hR : ∀ j m, ¬ (j = 362) → R' j m = R j m) (hq : Q5 I' A' J' R') : Rel (n + 1) I' G A' L J' R' := by
  have hT := Rel_T h
  obtain ⟨np, z, sc, q1, q2, q3, q4, q5c, q5, q6, q7, q8, q9⟩ := h
  exact ⟨np, z, sc, Q1_of q1 (hI _ _ (by omega)) (hJ _ (by omega)) (fun j k h1 h2 h3 => hI j k (by omega)) (fun j k h1 h2 h3 => hA j k (by omega)) (fun j k h1 h2 => hR j k (by omega)), Q2_of q2 (fun k => hI _ _ (by omega)) (hJ _ (by omega)) (hJ _ (by omega)) (fun j m h1 h2 => hA j m (by omega)) (fun j m h1 h2 => hR j m (by omega)), Q3_of q3 (fun p hp => hI _ _ (by omega)) (fun p m hp => hA _ _ (by omega)) (fun j m h1 h2 => hR j m (by omega)), Q4_of q4 rfl (fun _ _ => rfl) (fun T h => hI _ _ (by omega)) (hJ _ (by omega)) (fun T j m h1 h2 h3 => hA j m (by omega)) (fun _ _ _ => rfl) (fun j m h1 h2 => hR j m (by omega)) (fun B nv hB e1 e2 => ⟨nv, Nat.le_refl _, e2, by rw [hI _ _ (by have := pr_ge hB; omega)]; exact e1, fun m _ => hA _ _ (by have := pr_ge hB; omega)⟩), Q5c_of q5c (by omega) (hJ _ (by omega)) (fun p hp => hI _ _ (by omega)) (fun m => hR _ _ (by omega)), hq, Q6_of q6 (hJ _ (by omega)) (fun m => hA _ _ (by omega)) (fun m => hR _ _ (by omega)), ⟨by rw [hI _ _ (by omega), hJ _ (by omega)]; exact q7.1, by rw [hI _ _ (by omega)]; exact q7.2⟩, Q8_of q8 (by omega) (hI _ _ (by omega)) (hI _ _ (by omega)) (hJ _ (by omega)) (hJ _ (by omega)) rfl (fun j k h => hI j k (by omega)) (fun _ _ _ => rfl) (fun j m h => hA j m (by omega)) (fun _ _ _ _ => rfl) (fun k h => hJ k (by omega)) (fun j m h => hR j m (by omega)), (fun j x h => by rw [hR j x (by omega)]; exact q9 j x h)⟩
theorem Rel_Q8 (h : Rel n I G A L J R) (hI : ∀ j k, ¬ (j = 0 ∧ (k = 3 ∨ k = 5)) → I' j k = I j k) (hJ : ∀ k, ¬ (k = 0 ∨ k = 19 ∨ k = 23) → J' 318 k = J 318 k) (hq : ∀ np z sc, Q8 I G A L J R np z sc n → Q8 I' G A L J' R np z sc (n + 1)) : Rel (n + 1) I' G A L J' R := by
  have hT := Rel_T h
  obtain ⟨np, z, sc, q1, q2, q3, q4, q5c, q5, q6, q7, q8, q9⟩ := h
  have hA : ∀ (j m : Nat), ¬ (j = 20 ∧ False) → A j m = A j m := fun _ _ _ => rfl
  have hR : ∀ (j m : Nat), ¬ (j = 20 ∧ False) → R j m = R j m := fun _ _ _ => rfl
  exact ⟨np, z, sc, Q1_of q1 (hI _ _ (by omega)) (hJ _ (by omega)) (fun j k h1 h2 h3 => hI j k (by omega)) (fun j k h1 h2 h3 => hA j k (by omega)) (fun j k h1 h2 => hR j k (by omega)), Q2_of q2 (fun k => hI _ _ (by omega)) (hJ _ (by omega)) (hJ _ (by omega)) (fun j m h1 h2 => hA j m (by omega)) (fun j m h1 h2 => hR j m (by omega)), Q3_of q3 (fun p hp => hI _ _ (by omega)) (fun p m hp => hA _ _ (by omega)) (fun j m h1 h2 => hR j m (by omega)), Q4_of q4 rfl (fun _ _ => rfl) (fun T h => hI _ _ (by omega)) (hJ _ (by omega)) (fun T j m h1 h2 h3 => hA j m (by omega)) (fun _ _ _ => rfl) (fun j m h1 h2 => hR j m (by omega)) (fun B nv hB e1 e2 => ⟨nv, Nat.le_refl _, e2, by rw [hI _ _ (by have := pr_ge hB; omega)]; exact e1, fun m _ => hA _ _ (by have := pr_ge hB; omega)⟩), Q5c_of q5c (by omega) (hJ _ (by omega)) (fun p hp => hI _ _ (by omega)) (fun m => hR _ _ (by omega)), Q5_of q5 (fun k _ _ => hI _ _ (by omega)) (fun k _ _ => hJ k (by omega)) (fun p k hp _ _ => hI _ _ (by omega)) (fun m => hA _ _ (by omega)) (fun p m hp => hA _ _ (by omega)) (fun m => hR _ _ (by omega)) (fun m => hR _ _ (by omega)) (Qn_of (hJ _ (by omega))), Q6_of q6 (hJ _ (by omega)) (fun m => hA _ _ (by omega)) (fun m => hR _ _ (by omega)), ⟨by rw [hI _ _ (by omega), hJ _ (by omega)]; exact q7.1, by rw [hI _ _ (by omega)]; exact q7.2⟩, hq np z sc q8, (fun j x h => by rw [hR j x (by omega)]; exact q9 j x h)⟩
end RQ

/-! part 80.team -/
/-! THE TIE: the team's calls, and those that only read -/
section CB
variable {I A : Nat → Nat → Int32} {G : Nat → Nat → Nat} {L : Nat → Nat → Int64} {J R : Nat → Nat → Int32} {n : Nat}
theorem k_limit (a1 : Int32) (h : Rel n I G A L J R) : ∃ r I' J', f_X6_limit I a1 = some (r, I') ∧ f_X7_limit J a1 = some (r, J') ∧ Rel (n + 1) I' G A L J' R := by
  have hr := Rel_J0 h
  have hu := Rel_u h
  have e23 : up2 J 318 0 0 318 23 = J 318 23 := up0 (by decide)
  have e19 : up2 J 318 0 0 318 19 = J 318 19 := up0 (by decide)
  unfold f_X6_limit f_X7_limit
  simp only [bd, (t_wi _ _ _).1, (t_wi _ _ _).2, Option.bind_some, e23, e19, ← hu]
  by_cases hc : ¬ a1 < 0 ∧ ¬ 1000 < a1
  · rw [if_pos hc, if_neg z10, if_neg z10]
    by_cases hw : I 0 5 = -9
    · rw [if_pos hw, if_pos hw]
      have hq8 : I 0 3 = J 318 19 := by obtain ⟨np, z, sc, q1, q2, q3, q4, q5c, q5, q6, q7, ⟨b1, _⟩, q9⟩ := h; exact b1
      refine ⟨_, _, _, rfl, by rw [hq8], Rel_Q8 h (fun j k q => by unfold up2; rw [if_neg (fun r => q ⟨r.1, by omega⟩)]) (fun k q => by rw [up2_k (by omega), up2_k (by omega)]) (fun np z sc q8 => ?_)⟩
      obtain ⟨b1, T, b2, b3, b4⟩ := q8
      exact ⟨by rw [up2_s, up2_s], T, b2, b3, Or.inl ⟨by rw [up2_k (by decide)]; exact hw, by rw [up2_k (by decide), up2_k (by decide), ← hu]; exact hw⟩⟩
    · rw [if_neg hw, if_neg hw]
      exact ⟨_, _, _, rfl, rfl, hr⟩
  · rw [if_neg hc, if_pos rfl, if_pos rfl]
    exact ⟨_, _, _, rfl, rfl, hr⟩
theorem k_giveUp (h : Rel n I G A L J R) : ∃ r I' J', f_X6_giveUp I = some (r, I') ∧ f_X7_giveUp J = some (r, J') ∧ Rel (n + 1) I' G A L J' R := by
  have hr := Rel_J0 h
  have hu := Rel_u h
  have e23 : up2 J 318 0 0 318 23 = J 318 23 := up0 (by decide)
  unfold f_X6_giveUp f_X7_giveUp
  simp only [bd, e23, ← hu]
  by_cases hw : I 0 5 = -9
  · rw [if_pos hw, if_pos hw]
    exact ⟨_, _, _, rfl, rfl, hr⟩
  · rw [if_neg hw, if_neg hw]
    refine ⟨_, _, _, rfl, rfl, Rel_Q8 h (fun j k q => by unfold up2; rw [if_neg (fun r => q ⟨r.1, by omega⟩)]) (fun k q => by rw [up2_k (by omega), up2_k (by omega)]) (fun np z sc q8 => ?_)⟩
    obtain ⟨b1, T, b2, b3, b4⟩ := q8
    exact ⟨by rw [up2_k (by decide), up2_k (by decide), up2_k (by decide)]; exact b1, T, b2, b3, Or.inl ⟨up2_s _ _ _ _, up2_s _ _ _ _⟩⟩
theorem k_status (h : Rel n I G A L J R) : ∃ r J', f_X6_status I = some r ∧ f_X7_status J = some (r, J') ∧ Rel (n + 1) I G A L J' R := by
  have hr := Rel_J0 h
  have q : I 0 17 = J 318 1 := by obtain ⟨np, z, sc, q1, q2, q3, q4, q5c, q5, q6, q7, _⟩ := h; exact q7.1
  unfold f_X6_status f_X7_status
  simp only [bd]
  exact ⟨_, _, rfl, by rw [up0 (by decide), q], hr⟩
theorem k_plain (h : Rel n I G A L J R) : ∃ r I' J', f_X6_plain I = some (r, I') ∧ f_X7_plain J = some (r, J') ∧ Rel (n + 1) I' G A L J' R := by
  have hr := Rel_J0 h
  have hu := Rel_u h
  have e23 : up2 J 318 0 0 318 23 = J 318 23 := up0 (by decide)
  have e18 : up2 J 318 0 0 318 18 = J 318 18 := up0 (by decide)
  unfold f_X6_plain f_X7_plain
  simp only [bd, e23, e18, ← hu]
  by_cases hw : I 0 5 = -9
  · rw [if_pos hw, if_pos hw]
    obtain ⟨np, z, sc, q1, ⟨⟨t1, t2, t3, t4, t5, t6, t7, t8⟩, q2⟩, q3⟩ := id h
    refine ⟨nI sc, up2 I 2 1 0, up2 (up2 J 318 0 0) 318 18 0, by rw [t5], by rw [t6], Rel_Q2 h hw (fun j k q => up2_j q) (fun _ _ _ => rfl) (fun k q => by rw [up2_k (by omega), up2_k (by omega)]) (fun _ _ _ => rfl) (z' := z) (sc' := 0) ⟨⟨by rw [up2_k (by decide)]; exact t1, by rw [up2_k (by decide), up2_k (by decide)]; exact t2, t3, t4, up2_s _ _ _ _, up2_s _ _ _ _, by omega, fun i hi => by omega⟩, q2⟩⟩
  · rw [if_neg hw, if_neg hw]
    exact ⟨_, _, _, rfl, rfl, hr⟩
theorem k_turn (a1 : Int32) (h : Rel n I G A L J R) : ∃ r I' A' J' R', f_X6_turn I A a1 = some (r, I', A') ∧ f_X7_turn J R a1 = some (r, J', R') ∧ Rel (n + 1) I' G A' L J' R' := by
  have hr := Rel_J0 h
  have hu := Rel_u h
  have e23 : up2 J 318 0 0 318 23 = J 318 23 := up0 (by decide)
  have e18 : up2 J 318 0 0 318 18 = J 318 18 := up0 (by decide)
  obtain ⟨np, z, sc, q1, ⟨⟨t1, t2, t3, t4, t5, t6, t7, t8⟩, q2⟩, q3⟩ := id h
  unfold f_X6_turn f_X7_turn
  simp only [bd, (t_wi _ _ _).1, (t_wi _ _ _).2, Option.bind_some, e23, e18, ← hu]
  rcases t_rng (a := a1) (hi := 4) (by omega) with ⟨x, hx, rfl⟩ | hc
  · rw [if_pos (show ¬ nI x < 0 ∧ ¬ 4 < nI x from t_rng1 (hi := 4) (by omega) hx), if_neg z10, if_neg z10]
    by_cases hw : I 0 5 = -9
    · rw [if_pos hw, if_pos hw, t5, t6]
      by_cases hs : sc = 200
      · rw [if_neg (show ¬ nI sc < 200 from nI_nlt (b := 200) (by omega) (by omega)), if_pos (show nI sc = 200 by rw [hs]; rfl)]
        exact ⟨_, _, _, _, _, rfl, rfl, hr⟩
      · rw [if_pos (show nI sc < 200 from nI_lt (b := 200) (by omega) (by omega)), if_neg (show ¬ nI sc = 200 from fun q => by
          have q : nI sc = nI 200 := q
          rw [t_eq (by omega) (by omega)] at q; omega), gd_in (show sc < 200 by omega) (by omega), gd_in (show sc < 200 by omega) (by omega), t_cl (show sc < 2147483648 by omega), nI_1, up2_s, up2_s]
        refine ⟨_, _, _, _, _, rfl, rfl, Rel_Q2 h hw (fun j k q => up2_j q) (fun j m q => up2_j (by omega)) (fun k q => by rw [up2_k (by omega), up2_k (by omega)]) (fun j m q => up2_j (by omega)) (z' := z) (sc' := sc + 1) ⟨⟨by rw [up2_k (by decide)]; exact t1, by rw [up2_k (by decide), up2_k (by decide)]; exact t2, t3, t4, up2_s _ _ _ _, up2_s _ _ _ _, by omega, fun i hi => ?_⟩, fun y hy => ?_⟩⟩
        · by_cases hi2 : i = sc
          · subst hi2; rw [up2_s, up2_s]; exact ⟨rfl, x, by omega, rfl⟩
          · rw [up2_k hi2, up2_k hi2]; exact t8 i (by omega)
        · have := q2 y hy
          unfold THt at this ⊢
          rw [up2_j (show (3 : Nat) ≠ 4 by decide), up2_j (show (330 : Nat) ≠ 331 by decide), up2_j (show 2 + 3 ≠ 4 by decide), up2_j (show 2 + 4 ≠ 4 by decide), up2_j (show 2 + 5 ≠ 4 by decide), up2_j (show (334 : Nat) ≠ 331 by decide), up2_j (show (332 : Nat) ≠ 331 by decide), up2_j (show (333 : Nat) ≠ 331 by decide)]
          exact this
    · rw [if_neg hw, if_neg hw]
      exact ⟨_, _, _, _, _, rfl, rfl, hr⟩
  · rw [if_neg (show ¬ (¬ a1 < 0 ∧ ¬ 4 < a1) from hc), if_pos rfl, if_pos rfl]
    exact ⟨_, _, _, _, _, rfl, rfl, hr⟩
theorem k_fail (a1 a2 : Int32) (h : Rel n I G A L J R) : ∃ r A' J' R', f_X6_fail I A a1 a2 = some (r, A') ∧ f_X7_fail J R a1 a2 = some (r, J', R') ∧ Rel (n + 1) I G A' L J' R' := by
  have hr := Rel_J0 h
  have hu := Rel_u h
  have e23 : up2 J 318 0 0 318 23 = J 318 23 := up0 (by decide)
  have e15 : up2 J 318 0 0 318 15 = J 318 15 := up0 (by decide)
  obtain ⟨np, z, sc, q1, ⟨⟨t1, t2, t3, t4, t5, t6, t7, t8⟩, q2⟩, q3⟩ := id h
  unfold f_X6_fail f_X7_fail
  simp only [bd, (t_wi _ _ _).1, (t_wi _ _ _).2, Option.bind_some, e23, e15, ← hu, t1, t2]
  rw [nI_s1 (show 0 < z by omega)]
  rcases t_rng (a := a1) (hi := z - 1) (by omega) with ⟨x, hx, rfl⟩ | hc
  · rw [if_pos (show ¬ nI x < 0 ∧ ¬ nI (z - 1) < nI x from t_rng1 (by omega) hx), if_neg z10, if_neg z10]
    rcases t_rng (a := a2) (hi := 200) (by omega) with ⟨y, hy, rfl⟩ | hc
    · rw [if_pos (show ¬ nI y < 0 ∧ ¬ 200 < nI y from t_rng1 (hi := 200) (by omega) hy), if_neg z10, if_neg z10]
      by_cases hw : I 0 5 = -9
      · rw [if_pos hw, if_pos hw, gd_in (show x < 5 by omega) (by omega), gd_in (show x < 5 by omega) (by omega), t_cl (show x < 2147483648 by omega)]
        refine ⟨_, _, _, _, rfl, rfl, Rel_Q2 h hw (fun _ _ _ => rfl) (fun j m q => up2_j (by omega)) (fun k q => up2_k (by omega)) (fun j m q => up2_j (by omega)) (z' := z) (sc' := sc) ⟨⟨t1, by rw [up2_k (by decide)]; exact t2, t3, t4, t5, by rw [up2_k (by decide)]; exact t6, t7, fun i hi => by rw [up2_j (by decide), up2_j (by decide)]; exact t8 i hi⟩, fun u hu => ?_⟩⟩
        have := q2 u hu
        unfold THt at this ⊢
        rw [up2_j (show 2 + 3 ≠ 3 by decide), up2_j (show 2 + 4 ≠ 3 by decide), up2_j (show 2 + 5 ≠ 3 by decide), up2_j (show (334 : Nat) ≠ 330 by decide), up2_j (show (332 : Nat) ≠ 330 by decide), up2_j (show (333 : Nat) ≠ 330 by decide)]
        refine ⟨?_, this.2⟩
        by_cases hux : u = x
        · subst hux; rw [up2_s, up2_s]; exact ⟨rfl, y, hy, rfl⟩
        · rw [up2_k hux, up2_k hux]; exact this.1
      · rw [if_neg hw, if_neg hw]
        exact ⟨_, _, _, _, rfl, rfl, hr⟩
    · rw [if_neg (show ¬ (¬ a2 < 0 ∧ ¬ 200 < a2) from hc), if_pos rfl, if_pos rfl]
      exact ⟨_, _, _, _, rfl, rfl, hr⟩
  · rw [if_neg hc, if_pos rfl, if_pos rfl]
    exact ⟨_, _, _, _, rfl, rfl, hr⟩
def fl0 (R : Nat → Nat → Int32) (i : Nat) : Nat → Nat → Int32 := fun j m => if j = 330 ∧ m < i then 0 else R j m
theorem r_help_L {k11 : Int32 → (Nat → Nat → Int32) → Option (Int32 × (Nat → Nat → Int32) × (Nat → Nat → Int32))} {v : Int32} : ∀ (k i fu : Nat), i + k = 5 → k < fu → f_X7_helpers_L40 J k11 fu (nI i) v (fl0 R i) = k11 v (fl0 R 5) := by
  intro k
  induction k with
  | zero =>
    intro i fu hi hf
    obtain ⟨fu, rfl⟩ : ∃ z, fu = z + 1 := ⟨fu - 1, by omega⟩
    obtain rfl : i = 5 := by omega
    rw [f_X7_helpers_L40, if_neg (by decide)]
  | succ k ih =>
    intro i fu hi hf
    obtain ⟨fu, rfl⟩ : ∃ z, fu = z + 1 := ⟨fu - 1, by omega⟩
    have e2 : up2 (fl0 R i) 330 i 0 = fl0 R (i + 1) := by
      funext j m
      unfold up2 fl0
      by_cases h : j = 330 ∧ m = i
      · rw [if_pos h, if_pos ⟨h.1, by omega⟩]
      · rw [if_neg h]
        by_cases h2 : j = 330 ∧ m < i
        · rw [if_pos h2, if_pos ⟨h2.1, by omega⟩]
        · rw [if_neg h2, if_neg (fun q => by
            rcases Nat.lt_or_ge m i with r | r
            · exact h2 ⟨q.1, r⟩
            · exact h ⟨q.1, by omega⟩)]
    rw [f_X7_helpers_L40, if_pos (show nI i < 5 from nI_lt (b := 5) (by omega) (by omega))]
    simp (disch := omega) only [bd, gd_in, t_cl, e2, nI_1]
    exact ih (i + 1) fu (by omega) (by omega)
theorem k_helpers (a1 : Int32) (h : Rel n I G A L J R) : ∃ r I' A' J' R', f_X6_helpers I A a1 = some (r, I', A') ∧ f_X7_helpers J R a1 = some (r, J', R') ∧ Rel (n + 1) I' G A' L J' R' := by
  have hr := Rel_J0 h
  have hu := Rel_u h
  have e23 : up2 J 318 0 0 318 23 = J 318 23 := up0 (by decide)
  have e15 : up2 J 318 0 0 318 15 = J 318 15 := up0 (by decide)
  obtain ⟨np, z, sc, q1, ⟨⟨t1, t2, t3, t4, t5, t6, t7, t8⟩, q2⟩, q3⟩ := id h
  have hfill : ∀ F : Nat → Nat → Int32, f_J7_fill_53178 F (2 + 1) 0 = some (fil F 3 5 0) := fun F => t_fill (j := 3) (n := 5) ⟨by decide, by decide, by decide⟩ (by omega) (by omega)
  unfold f_X6_helpers f_X7_helpers
  simp only [bd, (t_wi _ _ _).1, (t_wi _ _ _).2, Option.bind_some, e23, e15, ← hu]
  by_cases hc : ¬ a1 < 1 ∧ ¬ 5 < a1
  · rw [if_pos hc, if_neg z10, if_neg z10]
    have hx : ∃ x, 1 ≤ x ∧ x ≤ 5 ∧ a1 = nI x := by
      have h0 : ¬ a1 < 0 := fun q => hc.1 (Int32.lt_trans q (by decide))
      obtain ⟨x, h1, h2⟩ := nI_of2 (M := 5) (n := 5) (by decide) h0 (Int32.not_lt.mp hc.2)
      refine ⟨x, ?_, h1, h2⟩
      rcases Nat.eq_zero_or_pos x with r | r
      · exfalso; rw [h2, r] at hc; exact hc.1 (by decide)
      · exact r
    obtain ⟨x, x1, x5, rfl⟩ := hx
    by_cases hw : I 0 5 = -9
    · rw [if_pos hw, if_pos hw]
      have hb : f_X4_become I A 2 (nI x) = some (up2 I 2 0 (nI x), fil A 3 5 0) := by
        unfold f_X4_become
        rw [gd_t (show 2 < 318 ∧ kd 2 = 4 by decide)]
        simp only [bd]
        rw [hfill, Option.bind_some]
      have e0 : fl0 R 0 = R := by funext j m; unfold fl0; rw [if_neg (fun q => by omega)]
      have hL := r_help_L (J := up2 (up2 J 318 0 0) 318 15 (nI x)) (R := R) (k11 := fun v12 A13 => some (v12, up2 (up2 J 318 0 0) 318 15 (nI x), A13)) (v := J 318 15) 5 0 FU (by omega) (t_fu _ (by omega))
      rw [e0] at hL
      have hf3 : ∀ y, y < 5 → fil A 3 5 0 3 y = 0 := fun y hy => by unfold fil; rw [if_pos ⟨rfl, hy⟩]
      have hf0 : ∀ y, y < 5 → fl0 R 5 330 y = 0 := fun y hy => by unfold fl0; rw [if_pos ⟨rfl, hy⟩]
      have hfo : ∀ j m, j ≠ 330 → fl0 R 5 j m = R j m := fun j m q => by unfold fl0; rw [if_neg (fun r => q r.1)]
      refine ⟨nI z, up2 I 2 0 (nI x), fil A 3 5 0, up2 (up2 J 318 0 0) 318 15 (nI x), fl0 R 5, by rw [hb, Option.bind_some, t1], by rw [t2] at hL ⊢; exact hL, Rel_Q2 h hw (fun j k q => up2_j q) (fun j m q => fil_j (by omega)) (fun k q => by rw [up2_k (by omega), up2_k (by omega)]) (fun j m q => hfo j m (by omega)) (z' := x) (sc' := sc) ⟨⟨up2_s _ _ _ _, up2_s _ _ _ _, x1, x5, by rw [up2_k (by decide)]; exact t5, by rw [up2_k (by decide), up2_k (by decide)]; exact t6, t7, fun i hi => by rw [fil_j (by decide), hfo _ _ (by decide)]; exact t8 i hi⟩, fun y hy => ?_⟩⟩
      have := q2 y hy
      unfold THt at this ⊢
      rw [hf3 y hy, hf0 y hy, fil_j (by decide), fil_j (by decide), fil_j (by decide), hfo _ _ (by decide), hfo _ _ (by decide), hfo _ _ (by decide)]
      exact ⟨⟨rfl, 0, by omega, rfl⟩, this.2⟩
    · rw [if_neg hw, if_neg hw]
      exact ⟨_, _, _, _, _, rfl, rfl, hr⟩
  · rw [if_neg hc, if_pos rfl, if_pos rfl]
    exact ⟨_, _, _, _, _, rfl, rfl, hr⟩
theorem k_helper (a1 a2 : Int32) (h : Rel n I G A L J R) : ∃ r J', f_X6_helper A a1 a2 = some r ∧ f_X7_helper J R a1 a2 = some (r, J') ∧ Rel (n + 1) I G A L J' R := by
  have hr := Rel_J0 h
  obtain ⟨np, z, sc, q1, ⟨_, q2⟩, q3⟩ := id h
  unfold f_X6_helper f_X7_helper
  simp only [bd, (t_wi _ _ _).1, (t_wi _ _ _).2, Option.bind_some]
  rcases t_rng (a := a1) (hi := 4) (by omega) with ⟨x, hx, rfl⟩ | hc
  · rw [if_pos (show ¬ nI x < 0 ∧ ¬ 4 < nI x from t_rng1 (hi := 4) (by omega) hx), if_neg z10, if_neg z10]
    obtain ⟨_, c1, c2, c3⟩ := q2 x (by omega)
    simp (disch := omega) only [gd_in, t_cl]
    have c1 : A 5 x = R 334 x := c1
    have c2 : A 6 x = R 332 x := c2
    have c3 : A 7 x = R 333 x := c3
    rw [c1, c2, c3]
    rcases t_rng (a := a2) (hi := 2) (by omega) with ⟨y, hy, rfl⟩ | hc
    · rw [if_pos (show ¬ nI y < 0 ∧ ¬ 2 < nI y from t_rng1 (hi := 2) (by omega) hy), if_neg z10]
      obtain rfl | rfl | rfl : y = 0 ∨ y = 1 ∨ y = 2 := by omega
      · rw [if_pos (show nI 0 = 0 from rfl), if_pos (show nI 0 = 0 from rfl)]; exact ⟨_, _, rfl, rfl, hr⟩
      · rw [if_neg (show ¬ nI 1 = 0 by decide), if_pos (show nI 1 = 1 from rfl), if_neg (show ¬ nI 1 = 0 by decide), if_pos (show nI 1 = 1 from rfl)]; exact ⟨_, _, rfl, rfl, hr⟩
      · rw [if_neg (show ¬ nI 2 = 0 by decide), if_neg (show ¬ nI 2 = 1 by decide), if_pos (show nI 2 = 2 from rfl), if_neg (show ¬ nI 2 = 0 by decide), if_neg (show ¬ nI 2 = 1 by decide)]; exact ⟨_, _, rfl, rfl, hr⟩
    · have hc : ¬ (¬ a2 < 0 ∧ ¬ 2 < a2) := hc
      rw [if_neg (fun q => hc (by rw [q]; decide)), if_neg (fun q => hc (by rw [q]; decide)), if_neg (fun q => hc (by rw [q]; decide)), if_neg hc, if_pos rfl]
      exact ⟨_, _, rfl, rfl, hr⟩
  · rw [if_neg (show ¬ (¬ a1 < 0 ∧ ¬ 4 < a1) from hc), if_pos rfl, if_pos rfl]
    exact ⟨_, _, rfl, rfl, hr⟩
end CB

/-! part 81.read -/
/-! THE TIE: calls that read -/
theorem t_ix {a : Int32} {m : Nat} (hm : m < 1073741824) : (∃ x, x < m ∧ a = nI x ∧ (¬ a < 0 ∧ ¬ nI m - 1 < a) ∧ ¬ a < 0 ∧ a < nI m) ∨ (¬ (¬ a < 0 ∧ ¬ nI m - 1 < a) ∧ ¬ (¬ a < 0 ∧ a < nI m)) := by
  rcases Nat.eq_zero_or_pos m with h0 | h0
  · right
    subst h0
    have e : nI 0 - 1 = (-1 : Int32) := by decide
    rw [e]
    constructor
    · rintro ⟨h1, h2⟩
      exact absurd (Int32.le_trans (Int32.not_lt.mp h1) (Int32.not_lt.mp h2)) (by decide)
    · rintro ⟨h1, h2⟩
      exact h1 h2
  · rw [nI_s1 h0]
    rcases t_rng (a := a) (hi := m - 1) (by omega) with ⟨x, hx, rfl⟩ | hc
    · exact Or.inl ⟨x, by omega, rfl, t_rng1 (by omega) hx, nI_pos (by omega), nI_lt (by omega) (by omega)⟩
    · refine Or.inr ⟨hc, fun q => hc ⟨q.1, fun r => ?_⟩⟩
      obtain ⟨j, j1, j2⟩ := nI_of q.1
      subst j2
      have a1 := (t_lt (by omega) (by omega)).mp q.2
      have a2 := (t_lt (by omega) (by omega)).mp r
      omega
theorem pq_all : ∀ p, p < 5 → (58 + 52 * p < 318 ∧ kd (58 + 52 * p) = 1) ∧ (58 + 52 * p + 1 < 318 ∧ kd (58 + 52 * p + 1) = 8) ∧ (58 + 52 * p + 2 < 318 ∧ kd (58 + 52 * p + 2) = 8) ∧ (58 + 52 * p + 3 < 318 ∧ kd (58 + 52 * p + 3) = 15) ∧ (58 + 52 * p + 10 < 318 ∧ kd (58 + 52 * p + 10) = 14) ∧ (58 + 52 * p + 11 < 318 ∧ kd (58 + 52 * p + 11) = 8) ∧ ln (58 + 52 * p + 1) = 6 ∧ ln (58 + 52 * p + 2) = 6 ∧ ln (58 + 52 * p + 3) = 6 ∧ ln (58 + 52 * p + 10) = 8 ∧ ln (58 + 52 * p + 11) = 12 := by decide +kernel
theorem pq_row : ∀ p, p < 5 → ∀ x, x < 6 → (58 + 52 * p + 4 + x < 318 ∧ kd (58 + 52 * p + 4 + x) = 8) ∧ ln (58 + 52 * p + 4 + x) = 6 := by decide +kernel
theorem pq_ru : ∀ p, p < 5 → ∀ r, r < 8 → (58 + 52 * p + 12 + 5 * r < 318 ∧ kd (58 + 52 * p + 12 + 5 * r) = 2) ∧ (58 + 52 * p + 12 + 5 * r + 1 < 318 ∧ kd (58 + 52 * p + 12 + 5 * r + 1) = 8) ∧ (58 + 52 * p + 12 + 5 * r + 2 < 318 ∧ kd (58 + 52 * p + 12 + 5 * r + 2) = 8) ∧ (58 + 52 * p + 12 + 5 * r + 3 < 318 ∧ kd (58 + 52 * p + 12 + 5 * r + 3) = 11) ∧ (58 + 52 * p + 12 + 5 * r + 4 < 318 ∧ kd (58 + 52 * p + 12 + 5 * r + 4) = 8) ∧ ln (58 + 52 * p + 12 + 5 * r + 1) = 6 ∧ ln (58 + 52 * p + 12 + 5 * r + 2) = 6 ∧ ln (58 + 52 * p + 12 + 5 * r + 3) = 6 ∧ ln (58 + 52 * p + 12 + 5 * r + 4) = 6 := by decide +kernel
section CC
variable {I A : Nat → Nat → Int32} {G : Nat → Nat → Nat} {L : Nat → Nat → Int64} {J R : Nat → Nat → Int32} {n : Nat}
theorem t_hasV {p nv : Nat} {a : Int32} (hp : p < 5) (hv : I (58 + 52 * p) 0 = nI nv) (hn : nv ≤ 6) : (∃ x, x < nv ∧ a = nI x ∧ f_X1_hasVariable I (58 + 52 * p) a = some 1 ∧ f_X7_in a 0 (nI nv - 1) = some 1) ∨ (f_X1_hasVariable I (58 + 52 * p) a = some 0 ∧ f_X7_in a 0 (nI nv - 1) = some 0) := by
  have g := (pq_all p hp).1
  unfold f_X1_hasVariable
  rw [gd_t g, hv, (t_wi _ _ _).2]
  rcases t_ix (a := a) (m := nv) (by omega) with ⟨x, x1, x2, x3, x4, x5⟩ | ⟨h1, h2⟩
  · rw [if_pos x3, if_neg x4, if_pos x5]
    exact Or.inl ⟨x, x1, x2, rfl, rfl⟩
  · rw [if_neg h1]
    refine Or.inr ⟨?_, rfl⟩
    by_cases h0 : a < 0
    · rw [if_pos h0]
    · rw [if_neg h0, if_neg (fun q => h2 ⟨h0, q⟩)]
theorem t_hasR {p nr : Nat} {a : Int32} (hp : p < 5) (hv : I (58 + 52 * p) 1 = nI nr) (hn : nr ≤ 8) : (∃ x, x < nr ∧ a = nI x ∧ f_X1_hasRule I (58 + 52 * p) a = some 1 ∧ f_X7_in a 0 (nI nr - 1) = some 1) ∨ (f_X1_hasRule I (58 + 52 * p) a = some 0 ∧ f_X7_in a 0 (nI nr - 1) = some 0) := by
  have g := (pq_all p hp).1
  unfold f_X1_hasRule
  rw [gd_t g, hv, (t_wi _ _ _).2]
  rcases t_ix (a := a) (m := nr) (by omega) with ⟨x, x1, x2, x3, x4, x5⟩ | ⟨h1, h2⟩
  · rw [if_pos x3, if_neg x4, if_pos x5]
    exact Or.inl ⟨x, x1, x2, rfl, rfl⟩
  · rw [if_neg h1]
    refine Or.inr ⟨?_, rfl⟩
    by_cases h0 : a < 0
    · rw [if_pos h0]
    · rw [if_neg h0, if_neg (fun q => h2 ⟨h0, q⟩)]
/-- has the variable the value? (where the problem is one) -/
theorem t_hasVal {p nv nr : Nat} {a b : Int32} (hP : TPr I A R p (58 + 52 * p) nv nr) (hJ : f_X7_isProblem J (nI p) = some 1) : (∃ x y, x < nv ∧ a = nI x ∧ y < szo A (58 + 52 * p) x ∧ szo A (58 + 52 * p) x ≤ 6 ∧ b = nI y ∧ f_X1_hasValue I A (58 + 52 * p) a b = some 1 ∧ f_X7_isValue J R (nI p) a b = some 1) ∨ (f_X1_hasValue I A (58 + 52 * p) a b = some 0 ∧ f_X7_isValue J R (nI p) a b = some 0) := by
  have hp := hP.1
  have hw := hP.2.2.1
  have hnv := hw.1
  obtain ⟨g0, g1, g2, g3, g10, g11, l1, l2, l3, l10, l11⟩ := pq_all p hp
  unfold f_X1_hasValue f_X7_isValue
  rw [gd_t g0, hJ, Option.bind_some, if_neg z10, gd_in hp (by omega), t_cl (show p < 2147483648 by omega), hP.2.2.2.1]
  rcases t_hasV (a := a) hp hw.2.2.1 hnv with ⟨x, x1, rfl, x3, x4⟩ | ⟨h1, h2⟩
  · rw [x3, x4, Option.bind_some, Option.bind_some, if_neg z10, if_neg z10]
    obtain ⟨s1, s2, s3⟩ := pr_sz hw x1
    have eR : R 321 (6 * p + x) = nI (szo A (58 + 52 * p) x) := (hP.2.2.2.2.2.1 x (by omega)).trans s1
    simp (disch := omega) only [m6, gd_in, t_cl, eR, (t_wi _ _ _).2, gd_t g1, l1, s1, Option.bind_some]
    rcases t_ix (a := b) (m := szo A (58 + 52 * p) x) (by omega) with ⟨y, y1, y2, y3, y4, y5⟩ | ⟨h1, h2⟩
    · rw [if_pos y3, if_neg y4, if_pos y5]
      exact Or.inl ⟨x, y, x1, rfl, y1, s3, y2, rfl, rfl⟩
    · rw [if_neg h1]
      refine Or.inr ⟨?_, rfl⟩
      by_cases h0 : b < 0
      · rw [if_pos h0]
      · rw [if_neg h0, if_neg (fun q => h2 ⟨h0, q⟩)]
  · rw [h1, h2]
    exact Or.inr ⟨rfl, rfl⟩
theorem k_row (a1 : Int32) (h : Rel n I G A L J R) : ∃ r J', f_X6_row A a1 = some r ∧ f_X7_row J R a1 = some (r, J') ∧ Rel (n + 1) I G A L J' R := by
  have hr := Rel_J0 h
  obtain ⟨np, z, sc, q1, q2, q3, q4, q5c, q5, q6, _⟩ := id h
  have e61 : up2 J 318 0 0 318 61 = J 318 61 := up0 (by decide)
  unfold f_X6_row f_X7_row
  simp only [bd, (t_wi _ _ _).1, (t_wi _ _ _).2, Option.bind_some, e61]
  rcases q6 with ⟨a, b⟩ | ⟨m, a, b, c, d⟩
  · rw [if_pos a]
    rcases t_rng (a := a1) (hi := 5) (by omega) with ⟨x, hx, rfl⟩ | hc
    · rw [if_pos (show ¬ nI x < 0 ∧ ¬ 5 < nI x from t_rng1 (hi := 5) (by omega) hx), if_neg z10, gd_in (show x < 6 by omega) (by omega), t_cl (show x < 2147483648 by omega), b x (by omega)]
      exact ⟨_, _, rfl, rfl, hr⟩
    · rw [if_neg (show ¬ (¬ a1 < 0 ∧ ¬ 5 < a1) from hc), if_pos rfl]
      exact ⟨_, _, rfl, rfl, hr⟩
  · rw [b, if_neg (t_m9 (by omega))]
    rcases t_ix (a := a1) (m := m) (by omega) with ⟨x, x1, rfl, x3, x4, x5⟩ | ⟨h1, h2⟩
    · simp (disch := omega) only [gd_in, t_cl]
      rw [if_pos x3, if_neg z10, if_pos (show ¬ nI x < 0 ∧ ¬ 5 < nI x from t_rng1 (hi := 5) (by omega) (by omega)), if_neg z10, c x x1]
      exact ⟨_, _, rfl, rfl, hr⟩
    · rw [if_neg h1, if_pos rfl]
      rcases t_rng (a := a1) (hi := 5) (by omega) with ⟨x, hx, rfl⟩ | hc
      · have hxm : m ≤ x := by
          rcases Nat.lt_or_ge x m with r | r
          · exact absurd ⟨nI_pos (by omega), nI_lt r (by omega)⟩ h2
          · exact r
        rw [if_pos (show ¬ nI x < 0 ∧ ¬ 5 < nI x from t_rng1 (hi := 5) (by omega) hx), if_neg z10, gd_in (show x < 6 by omega) (by omega), t_cl (show x < 2147483648 by omega), d x hxm (by omega)]
        exact ⟨_, _, rfl, rfl, hr⟩
      · rw [if_neg (show ¬ (¬ a1 < 0 ∧ ¬ 5 < a1) from hc), if_pos rfl]
        exact ⟨_, _, rfl, rfl, hr⟩
theorem k_told (a1 a2 : Int32) (h : Rel n I G A L J R) : ∃ r J', f_X6_told I A a1 a2 = some r ∧ f_X7_told J R a1 a2 = some (r, J') ∧ Rel (n + 1) I G A L J' R := by
  have hr := Rel_J0 h
  obtain ⟨np, z, sc, ⟨p1, p2, p3, p4⟩, q2, q3, _⟩ := id h
  unfold f_X6_told f_X7_told
  simp only [bd, (t_wi _ _ _).1, (t_wi _ _ _).2, Option.bind_some]
  rcases t_isP (a := a1) (I := I) (J := up2 J 318 0 0) p2 ((up0 (by decide)).trans p3) p1 with ⟨p, hp, rfl, e1, e2⟩ | ⟨e1, e2⟩
  · rw [e1, e2, Option.bind_some, Option.bind_some, if_neg z10, if_neg z10]
    obtain ⟨g0, g1, g2, g3, g10, g11, l1, l2, l3, l10, l11⟩ := pq_all p (by omega)
    rcases t_rng (a := a2) (hi := 5) (by omega) with ⟨x, hx, rfl⟩ | hc
    · rw [if_pos (show ¬ nI x < 0 ∧ ¬ 5 < nI x from t_rng1 (hi := 5) (by omega) hx), if_neg z10, if_neg z10]
      simp (disch := omega) only [gd_in, t_cl, gd_t g0, gd_t g11, l11, m6]
      rcases q3 p (by omega) with ⟨c1, c2, c3⟩ | ⟨c1, c2, c3, c4⟩
      · rw [c1, c2, if_pos rfl, if_pos rfl]
        exact ⟨_, _, rfl, rfl, hr⟩
      · rw [c1, c2, if_neg z10, if_neg z10, c3 x (by omega)]
        exact ⟨_, _, rfl, rfl, hr⟩
    · rw [if_neg (show ¬ (¬ a2 < 0 ∧ ¬ 5 < a2) from hc), if_pos rfl, if_pos rfl]
      exact ⟨_, _, rfl, rfl, hr⟩
  · rw [e1, e2]
    exact ⟨_, _, rfl, rfl, hr⟩
theorem k_answer (a1 a2 : Int32) (h : Rel n I G A L J R) : ∃ r J', f_X6_answer I A a1 a2 = some r ∧ f_X7_answer J R a1 a2 = some (r, J') ∧ Rel (n + 1) I G A L J' R := by
  have hr := Rel_J0 h
  obtain ⟨np, z, sc, ⟨p1, p2, p3, p4⟩, q2, q3, _⟩ := id h
  unfold f_X6_answer f_X7_answer
  simp only [bd]
  rcases t_isP (a := a1) (I := I) (J := up2 J 318 0 0) p2 ((up0 (by decide)).trans p3) p1 with ⟨p, hp, rfl, e1, e2⟩ | ⟨e1, e2⟩
  · rw [e1, e2, Option.bind_some, Option.bind_some, if_neg z10, if_neg z10]
    obtain ⟨g0, g1, g2, g3, g10, g11, l1, l2, l3, l10, l11⟩ := pq_all p (by omega)
    obtain ⟨⟨nv, nr, hP⟩, _⟩ := p4 p (by omega)
    have hnv := hP.2.2.1.1
    simp (disch := omega) only [gd_in, t_cl, gd_t g0]
    rw [hP.2.2.2.1]
    rcases t_hasV (a := a2) (by omega) hP.2.2.1.2.2.1 hnv with ⟨x, x1, rfl, x3, x4⟩ | ⟨h1, h2⟩
    · rw [x3, x4, Option.bind_some, Option.bind_some, if_neg z10, if_neg z10]
      have e6 : 6 + nI x = nI (6 + x) := nI_add 6 x
      rw [e6]
      simp (disch := omega) only [gd_in, t_cl, gd_t g11, l11, m6]
      rcases q3 p (by omega) with ⟨c1, c2, c3⟩ | ⟨c1, c2, c3, ⟨c4, c5⟩ | ⟨c4, c5⟩⟩
      · rw [c1, c3, if_pos rfl, if_pos rfl]
        exact ⟨_, _, rfl, rfl, hr⟩
      · rw [c1, c4, if_neg z10, if_neg z10, c5 x (by omega)]
        exact ⟨_, _, rfl, rfl, hr⟩
      · rw [c1, c4, if_neg z10, if_pos rfl, c5 x (by omega)]
        exact ⟨_, _, rfl, rfl, hr⟩
    · rw [h1, h2]
      exact ⟨_, _, rfl, rfl, hr⟩
  · rw [e1, e2]
    exact ⟨_, _, rfl, rfl, hr⟩
/-- status: granted, refused -/
theorem Rel_st {w : Int32} {J' : Nat → Nat → Int32} (h : Rel n I G A L J R) (h1 : J' 318 1 = w) (hJ : ∀ k, ¬ (k = 0 ∨ k = 1) → J' 318 k = J 318 k) : Rel (n + 1) (up2 I 0 17 w) G A L J' R :=
  Rel_Q7 h (fun j k q => by unfold up2; rw [if_neg q]) (fun _ _ _ => rfl) hJ (fun _ _ _ => rfl) (by rw [up2_s, h1])
theorem k_costs (a1 a2 a3 : Int32) (h : Rel n I G A L J R) : ∃ r I' J', f_X6_costs I A a1 a2 a3 = some (r, I') ∧ f_X7_costs J R a1 a2 a3 = some (r, J') ∧ Rel (n + 1) I' G A L J' R := by
  obtain ⟨np, z, sc, ⟨p1, p2, p3, p4⟩, _⟩ := id h
  have hbad : Rel (n + 1) (up2 I 0 17 (-1)) G A L (up2 (up2 (up2 J 318 0 0) 318 1 0) 318 1 (-1)) R := Rel_st h (up2_s _ _ _ _) (fun k q => by rw [up2_k (by omega), up2_k (by omega), up2_k (by omega)])
  have hok : Rel (n + 1) (up2 I 0 17 0) G A L (up2 (up2 J 318 0 0) 318 1 0) R := Rel_st h (up2_s _ _ _ _) (fun k q => by rw [up2_k (by omega), up2_k (by omega)])
  have e2' : up2 (up2 J 318 0 0) 318 1 0 318 2 = nI np := by rw [up2_k (by decide), up2_k (by decide)]; exact p3
  unfold f_X6_costs f_X7_costs f_X6_refuse f_X6_grant f_X7_no
  simp only [bd, Option.bind_some]
  rcases t_isP (a := a1) (I := I) (J := up2 (up2 J 318 0 0) 318 1 0) p2 e2' p1 with ⟨p, hp, rfl, e1, e2⟩ | ⟨e1, e2⟩
  · rw [e1, Option.bind_some, if_neg z10]
    obtain ⟨g0, g1, g2, g3, g10, g11, l1, l2, l3, l10, l11⟩ := pq_all p (by omega)
    obtain ⟨⟨nv, nr, hP⟩, _⟩ := p4 p (by omega)
    have hnv := hP.2.2.1.1
    simp (disch := omega) only [gd_in, t_cl, gd_t g0]
    rcases t_hasVal (a := a2) (b := a3) hP e2 with ⟨x, y, x1, rfl, y1, y2, rfl, v1, v2⟩ | ⟨v1, v2⟩
    · obtain ⟨r1, r2⟩ := pq_row p (by omega) x (by omega)
      have hc := r_costAt hP (show x < 6 by omega) (show y < 6 by omega)
      simp (disch := omega) only [v1, v2, Option.bind_some, z10, if_false, gd_t g3, l3, gd_in, t_cl, gd_t r1, r2, hc]
      exact ⟨_, _, _, rfl, rfl, hok⟩
    · rw [v1, v2]
      exact ⟨_, _, _, rfl, rfl, hbad⟩
  · unfold f_X7_isValue
    rw [e1, e2]
    exact ⟨_, _, _, rfl, rfl, hbad⟩
end CC

/-! part 82.ask -/
/-! THE TIE: calls that ask -/
theorem t_vOf {L : Nat → Nat → Int64} {T c : Nat} (hT : TrAt T) (hc : c < lT T) (a : Int32) : f_X5_valueOf L T (nI c) a = some (vlo (L (T + 1) c) a) := by
  obtain ⟨g0, g1, _⟩ := tgd hT
  have hl := (tr_l hT).1
  have hlT := (tr_l hT).2.2.2.2.2.2.2.2.2.2.2
  unfold f_X5_valueOf f_X5_shiftOf
  rw [gd_t g0, gd_t g1, hl, gd_in hc (by omega)]
  simp (disch := omega) only [t_cl, Option.bind_some]
  rfl
theorem t_bOf {L : Nat → Nat → Int64} {T c : Nat} (hT : TrAt T) (hc : c < lT T) : f_X5_boundOf L T (nI c) = some (bdo (L (T + 1) c)) := by
  obtain ⟨g0, g1, _⟩ := tgd hT
  have hl := (tr_l hT).1
  have hlT := (tr_l hT).2.2.2.2.2.2.2.2.2.2.2
  unfold f_X5_boundOf
  rw [gd_t g0, gd_t g1, hl, gd_in hc (by omega)]
  simp (disch := omega) only [t_cl]
  rfl
section CD
variable {I A : Nat → Nat → Int32} {G : Nat → Nat → Nat} {L : Nat → Nat → Int64} {J R : Nat → Nat → Int32} {n : Nat}
theorem k_count (a1 : Int32) (h : Rel n I G A L J R) : ∃ r r' J', f_X6_count I G a1 = some r ∧ f_X7_count J a1 = some (r', J') ∧ (a1 ≠ 5 → r = r') ∧ Rel (n + 1) I G A L J' R := by
  have hr := Rel_J0 h
  have hu := Rel_u h
  obtain ⟨np, z, sc, ⟨p1, p2, p3, p4⟩, ⟨⟨t1, t2, t3, t4, t5, t6, t7, t8⟩, _⟩, q3, q4, q5c, q5, q6, q7, ⟨b1, T, b2, b3, b4⟩, q9⟩ := id h
  have hT : TrAt T := by unfold TrAt; omega
  have gT := (tgd hT).1
  have e : ∀ k, k ≠ 0 → up2 J 318 0 0 318 k = J 318 k := fun k q => up0 q
  unfold f_X6_count f_X7_count
  simp only [bd, e 2 (by decide), e 19 (by decide), e 15 (by decide), e 18 (by decide), e 23 (by decide), e 29 (by decide), e 30 (by decide), e 31 (by decide), b2, gd_t gT, ← hu, p2, p3, b1, t1, t2, t5, t6]
  by_cases c0 : a1 = 0
  · simp only [if_pos c0]
    exact ⟨_, _, _, ite_self _, rfl, fun _ => rfl, hr⟩
  simp only [if_neg c0]
  by_cases c1 : a1 = 1
  · simp only [if_pos c1]
    exact ⟨_, _, _, ite_self _, rfl, fun _ => rfl, hr⟩
  simp only [if_neg c1]
  by_cases c2 : a1 = 2
  · simp only [if_pos c2]
    exact ⟨_, _, _, ite_self _, rfl, fun _ => rfl, hr⟩
  simp only [if_neg c2]
  by_cases c3 : a1 = 3
  · simp only [if_pos c3]
    exact ⟨_, _, _, ite_self _, rfl, fun _ => rfl, hr⟩
  simp only [if_neg c3]
  by_cases c4 : a1 = 4
  · simp only [if_pos c4]
    exact ⟨_, _, _, ite_self _, rfl, fun _ => rfl, hr⟩
  simp only [if_neg c4]
  by_cases hw : I 0 5 = -9
  · simp only [if_pos hw, if_true]
    by_cases c5 : a1 = 5
    · simp only [if_pos c5]
      exact ⟨_, _, _, rfl, rfl, fun _ => rfl, hr⟩
    simp only [if_neg c5]
    by_cases c6 : a1 = 6
    · simp only [if_pos c6]
      exact ⟨_, _, _, rfl, rfl, fun _ => rfl, hr⟩
    simp only [if_neg c6]
    by_cases c7 : a1 = 7
    · simp only [if_pos c7]
      exact ⟨_, _, _, rfl, rfl, fun _ => rfl, hr⟩
    simp only [if_neg c7]
    exact ⟨_, _, _, rfl, rfl, fun _ => rfl, hr⟩
  · rcases b4 with ⟨x, y⟩ | ⟨p, nv, nr, kn, nn, dd, tk, tn, hb, fb, x1, x2, x3, hS, _⟩
    · exact absurd x hw
    obtain ⟨⟨_, hGB, hPr, hmt, hX, hF, hd1, hd2, ht1, ht2, _⟩, _⟩ := hS
    simp only [if_neg hw, if_neg z10, hd1, hd2, ht1, ht2]
    by_cases c5 : a1 = 5
    · simp only [if_pos c5]
      exact ⟨_, _, _, rfl, rfl, fun q => absurd c5 q, hr⟩
    simp only [if_neg c5]
    by_cases c6 : a1 = 6
    · simp only [if_pos c6]
      exact ⟨_, _, _, rfl, rfl, fun _ => rfl, hr⟩
    simp only [if_neg c6]
    by_cases c7 : a1 = 7
    · simp only [if_pos c7]
      exact ⟨_, _, _, rfl, rfl, fun _ => rfl, hr⟩
    simp only [if_neg c7]
    exact ⟨_, _, _, rfl, rfl, fun _ => rfl, hr⟩
theorem t_isRu {p nv nr : Nat} {a : Int32} (hP : TPr I A R p (58 + 52 * p) nv nr) (hJ : f_X7_isProblem J (nI p) = some 1) : (∃ x, x < nr ∧ a = nI x ∧ f_X1_hasRule I (58 + 52 * p) a = some 1 ∧ f_X7_isRule J R (nI p) a = some 1) ∨ (f_X1_hasRule I (58 + 52 * p) a = some 0 ∧ f_X7_isRule J R (nI p) a = some 0) := by
  have hp := hP.1
  have hw := hP.2.2.1
  unfold f_X7_isRule
  rw [hJ, Option.bind_some, if_neg z10, gd_in hp (by omega)]
  simp (disch := omega) only [t_cl]
  rw [hP.2.2.2.2.1]
  rcases t_hasR (a := a) hp hw.2.2.2.1 hw.2.1 with ⟨x, x1, rfl, x3, x4⟩ | ⟨h1, h2⟩
  · rw [x3, x4, Option.bind_some, if_neg z10]
    exact Or.inl ⟨x, x1, rfl, rfl, rfl⟩
  · rw [h1, h2]
    exact Or.inr ⟨rfl, rfl⟩
theorem k_about (a1 a2 a3 : Int32) (h : Rel n I G A L J R) : ∃ r I' J', f_X6_about I A a1 a2 a3 = some (r, I') ∧ f_X7_about J R a1 a2 a3 = some (r, J') ∧ Rel (n + 1) I' G A L J' R := by
  obtain ⟨np, z, sc, ⟨p1, p2, p3, p4⟩, _⟩ := id h
  have hbad : Rel (n + 1) (up2 I 0 17 (-1)) G A L (up2 (up2 (up2 J 318 0 0) 318 1 0) 318 1 (-1)) R := Rel_st h (up2_s _ _ _ _) (fun k q => by rw [up2_k (by omega), up2_k (by omega), up2_k (by omega)])
  have hok : Rel (n + 1) (up2 I 0 17 0) G A L (up2 (up2 J 318 0 0) 318 1 0) R := Rel_st h (up2_s _ _ _ _) (fun k q => by rw [up2_k (by omega), up2_k (by omega)])
  have e2' : up2 (up2 J 318 0 0) 318 1 0 318 2 = nI np := by rw [up2_k (by decide), up2_k (by decide)]; exact p3
  unfold f_X6_about f_X7_about f_X6_refuse f_X6_grant f_X7_no
  simp only [bd, Option.bind_some, (t_wi a2 0 6).1, (t_wi a2 0 6).2]
  rcases t_isP (a := a1) (I := I) (J := up2 (up2 J 318 0 0) 318 1 0) p2 e2' p1 with ⟨p, hp, rfl, e1, e2⟩ | ⟨e1, e2⟩
  · rw [e1, e2, Option.bind_some, Option.bind_some, if_neg z10, if_neg z10]
    obtain ⟨g0, g1, g2, g3, g10, g11, l1, l2, l3, l10, l11⟩ := pq_all p (by omega)
    obtain ⟨⟨nv, nr, hP⟩, hK⟩ := p4 p (by omega)
    have hnv := hP.2.2.1.1
    have hnr := hP.2.2.1.2.1
    rcases t_rng (a := a2) (hi := 6) (by omega) with ⟨x, hx, rfl⟩ | hc
    · rw [if_pos (show ¬ nI x < 0 ∧ ¬ 6 < nI x from t_rng1 (hi := 6) (by omega) hx), if_neg z10, if_neg z10]
      simp (disch := omega) only [gd_in, t_cl, gd_t g0, gd_t g1, gd_t g2, gd_t g10, l1, l2, l10]
      rw [hP.2.2.2.1]
      have hx7 : x = 0 ∨ x = 1 ∨ x = 2 ∨ x = 3 ∨ x = 4 ∨ x = 5 ∨ x = 6 := by omega
      rcases hx7 with rfl | rfl | rfl | rfl | rfl | rfl | rfl
      · simp only [eq_true (show nI 0 = (0 : Int32) from rfl), eq_false (show ¬ nI 0 = (1 : Int32) by decide), eq_false (show ¬ nI 0 = (2 : Int32) by decide), eq_false (show ¬ nI 0 = (3 : Int32) by decide), eq_false (show ¬ nI 0 = (4 : Int32) by decide), eq_false (show ¬ nI 0 = (5 : Int32) by decide), eq_false (show ¬ nI 0 = (6 : Int32) by decide), eq_false (show ¬ (4 : Int32) < nI 0 by decide), eq_true (show nI 0 < (5 : Int32) by decide), if_true, if_false]
        rw [hP.2.2.1.2.2.1]
        exact ⟨_, _, _, rfl, rfl, hok⟩
      · simp only [eq_false (show ¬ nI 1 = (0 : Int32) by decide), eq_true (show nI 1 = (1 : Int32) from rfl), eq_false (show ¬ nI 1 = (2 : Int32) by decide), eq_false (show ¬ nI 1 = (3 : Int32) by decide), eq_false (show ¬ nI 1 = (4 : Int32) by decide), eq_false (show ¬ nI 1 = (5 : Int32) by decide), eq_false (show ¬ nI 1 = (6 : Int32) by decide), eq_false (show ¬ (4 : Int32) < nI 1 by decide), eq_true (show nI 1 < (5 : Int32) by decide), if_true, if_false]
        rw [hP.2.2.1.2.2.2.1, hP.2.2.2.2.1]
        exact ⟨_, _, _, rfl, rfl, hok⟩
      · simp only [eq_false (show ¬ nI 2 = (0 : Int32) by decide), eq_false (show ¬ nI 2 = (1 : Int32) by decide), eq_true (show nI 2 = (2 : Int32) from rfl), eq_false (show ¬ nI 2 = (3 : Int32) by decide), eq_false (show ¬ nI 2 = (4 : Int32) by decide), eq_false (show ¬ nI 2 = (5 : Int32) by decide), eq_false (show ¬ nI 2 = (6 : Int32) by decide), eq_false (show ¬ (4 : Int32) < nI 2 by decide), eq_true (show nI 2 < (5 : Int32) by decide), if_true, if_false]
        rcases t_isRu (a := a3) hP e2 with ⟨r, r1, rfl, v1, v2⟩ | ⟨v1, v2⟩
        · obtain ⟨g, _⟩ := pq_ru p (by omega) r (by omega)
          obtain ⟨⟨u0, u1, u2, _⟩, _⟩ := hP.2.2.2.2.2.2.2 r (by omega)
          unfold f_X2_tell
          simp (disch := omega) only [v1, v2, Option.bind_some, if_neg z10, gd_in, t_cl, gd_t g, m8, u0, u1, u2]
          simp only [eq_false (show ¬ nI 2 = (0 : Int32) by decide), eq_false (show ¬ nI 2 = (1 : Int32) by decide), eq_true (show nI 2 = (2 : Int32) from rfl), eq_false (show ¬ nI 2 = (3 : Int32) by decide), eq_false (show ¬ nI 2 = (4 : Int32) by decide), eq_false (show ¬ nI 2 = (5 : Int32) by decide), eq_false (show ¬ nI 2 = (6 : Int32) by decide), eq_false (show ¬ (4 : Int32) < nI 2 by decide), eq_true (show nI 2 < (5 : Int32) by decide), if_true, if_false]
          exact ⟨_, _, _, rfl, rfl, hok⟩
        · rw [v1, v2]
          exact ⟨_, _, _, rfl, rfl, hbad⟩
      · simp only [eq_false (show ¬ nI 3 = (0 : Int32) by decide), eq_false (show ¬ nI 3 = (1 : Int32) by decide), eq_false (show ¬ nI 3 = (2 : Int32) by decide), eq_true (show nI 3 = (3 : Int32) from rfl), eq_false (show ¬ nI 3 = (4 : Int32) by decide), eq_false (show ¬ nI 3 = (5 : Int32) by decide), eq_false (show ¬ nI 3 = (6 : Int32) by decide), eq_false (show ¬ (4 : Int32) < nI 3 by decide), eq_true (show nI 3 < (5 : Int32) by decide), if_true, if_false]
        rcases t_isRu (a := a3) hP e2 with ⟨r, r1, rfl, v1, v2⟩ | ⟨v1, v2⟩
        · obtain ⟨g, _⟩ := pq_ru p (by omega) r (by omega)
          obtain ⟨⟨u0, u1, u2, _⟩, _⟩ := hP.2.2.2.2.2.2.2 r (by omega)
          unfold f_X2_tell
          simp (disch := omega) only [v1, v2, Option.bind_some, if_neg z10, gd_in, t_cl, gd_t g, m8, u0, u1, u2]
          simp only [eq_false (show ¬ nI 3 = (0 : Int32) by decide), eq_false (show ¬ nI 3 = (1 : Int32) by decide), eq_false (show ¬ nI 3 = (2 : Int32) by decide), eq_true (show nI 3 = (3 : Int32) from rfl), eq_false (show ¬ nI 3 = (4 : Int32) by decide), eq_false (show ¬ nI 3 = (5 : Int32) by decide), eq_false (show ¬ nI 3 = (6 : Int32) by decide), eq_false (show ¬ (4 : Int32) < nI 3 by decide), eq_true (show nI 3 < (5 : Int32) by decide), if_true, if_false]
          exact ⟨_, _, _, rfl, rfl, hok⟩
        · rw [v1, v2]
          exact ⟨_, _, _, rfl, rfl, hbad⟩
      · simp only [eq_false (show ¬ nI 4 = (0 : Int32) by decide), eq_false (show ¬ nI 4 = (1 : Int32) by decide), eq_false (show ¬ nI 4 = (2 : Int32) by decide), eq_false (show ¬ nI 4 = (3 : Int32) by decide), eq_true (show nI 4 = (4 : Int32) from rfl), eq_false (show ¬ nI 4 = (5 : Int32) by decide), eq_false (show ¬ nI 4 = (6 : Int32) by decide), eq_false (show ¬ (4 : Int32) < nI 4 by decide), eq_true (show nI 4 < (5 : Int32) by decide), if_true, if_false]
        rcases t_isRu (a := a3) hP e2 with ⟨r, r1, rfl, v1, v2⟩ | ⟨v1, v2⟩
        · obtain ⟨g, _⟩ := pq_ru p (by omega) r (by omega)
          obtain ⟨⟨u0, u1, u2, _⟩, _⟩ := hP.2.2.2.2.2.2.2 r (by omega)
          unfold f_X2_tell
          simp (disch := omega) only [v1, v2, Option.bind_some, if_neg z10, gd_in, t_cl, gd_t g, m8, u0, u1, u2]
          simp only [eq_false (show ¬ nI 4 = (0 : Int32) by decide), eq_false (show ¬ nI 4 = (1 : Int32) by decide), eq_false (show ¬ nI 4 = (2 : Int32) by decide), eq_false (show ¬ nI 4 = (3 : Int32) by decide), eq_true (show nI 4 = (4 : Int32) from rfl), eq_false (show ¬ nI 4 = (5 : Int32) by decide), eq_false (show ¬ nI 4 = (6 : Int32) by decide), eq_false (show ¬ (4 : Int32) < nI 4 by decide), eq_true (show nI 4 < (5 : Int32) by decide), if_true, if_false]
          exact ⟨_, _, _, rfl, rfl, hok⟩
        · rw [v1, v2]
          exact ⟨_, _, _, rfl, rfl, hbad⟩
      · simp only [eq_false (show ¬ nI 5 = (0 : Int32) by decide), eq_false (show ¬ nI 5 = (1 : Int32) by decide), eq_false (show ¬ nI 5 = (2 : Int32) by decide), eq_false (show ¬ nI 5 = (3 : Int32) by decide), eq_false (show ¬ nI 5 = (4 : Int32) by decide), eq_true (show nI 5 = (5 : Int32) from rfl), eq_false (show ¬ nI 5 = (6 : Int32) by decide), eq_true (show (4 : Int32) < nI 5 by decide), eq_false (show ¬ nI 5 < (5 : Int32) by decide), if_true, if_false]
        rcases t_hasV (a := a3) (by omega) hP.2.2.1.2.2.1 hnv with ⟨m, m1, rfl, v1, v2⟩ | ⟨v1, v2⟩
        · simp (disch := omega) only [v1, v2, Option.bind_some, if_neg z10, gd_in, t_cl, m6]
          rw [(hP.2.2.2.2.2.1 m (by omega))]
          exact ⟨_, _, _, rfl, rfl, hok⟩
        · rw [v1, v2]
          exact ⟨_, _, _, rfl, rfl, hbad⟩
      · simp only [eq_false (show ¬ nI 6 = (0 : Int32) by decide), eq_false (show ¬ nI 6 = (1 : Int32) by decide), eq_false (show ¬ nI 6 = (2 : Int32) by decide), eq_false (show ¬ nI 6 = (3 : Int32) by decide), eq_false (show ¬ nI 6 = (4 : Int32) by decide), eq_false (show ¬ nI 6 = (5 : Int32) by decide), eq_true (show nI 6 = (6 : Int32) from rfl), eq_true (show (4 : Int32) < nI 6 by decide), eq_false (show ¬ nI 6 < (5 : Int32) by decide), if_true, if_false]
        rcases t_hasV (a := a3) (by omega) hP.2.2.1.2.2.1 hnv with ⟨m, m1, rfl, v1, v2⟩ | ⟨v1, v2⟩
        · simp (disch := omega) only [v1, v2, Option.bind_some, if_neg z10, gd_in, t_cl, m6]
          rw [(hK.1 m (by omega))]
          exact ⟨_, _, _, rfl, rfl, hok⟩
        · rw [v1, v2]
          exact ⟨_, _, _, rfl, rfl, hbad⟩
    · rw [if_neg (show ¬ (¬ a2 < 0 ∧ ¬ 6 < a2) from hc), if_pos rfl, if_pos rfl]
      exact ⟨_, _, _, rfl, rfl, hbad⟩
  · rw [e1, e2]
    exact ⟨_, _, _, rfl, rfl, hbad⟩
theorem k_ask (a1 : Int32) (h : Rel n I G A L J R) (hn : n < 1073741824) : ∃ r I' A' J', f_X6_ask I A a1 = some (r, I', A') ∧ f_X7_ask J R a1 = some (r, J') ∧ Rel (n + 1) I' G A' L J' R := by
  have hr := Rel_J0 h
  obtain ⟨np, z, sc, ⟨p1, p2, p3, p4⟩, q2, q3, q4, ⟨g, c1, c2, c3⟩, _⟩ := id h
  have e2' : up2 J 318 0 0 318 2 = nI np := by rw [up2_k (by decide)]; exact p3
  unfold f_X6_ask f_X7_ask
  simp only [bd]
  rcases t_isP (a := a1) (I := I) (J := up2 J 318 0 0) p2 e2' p1 with ⟨p, hp, rfl, e1, e2⟩ | ⟨e1, e2⟩
  · rw [e1, e2, Option.bind_some, Option.bind_some, if_neg z10, if_neg z10]
    obtain ⟨g0, _⟩ := pq_all p (by omega)
    obtain ⟨⟨nv, nr, hP⟩, hK⟩ := p4 p (by omega)
    obtain ⟨c, c', d1, d2, d3, d4⟩ := c3 p (by omega)
    rw [t_fill (A := A) (j := 18) (n := 6) (w := -1) ⟨by decide, by decide +kernel, by decide +kernel⟩ (by decide) (by decide)]
    simp (disch := omega) only [gd_in, t_cl, gd_t g0, Option.bind_some]
    have o2 : ∀ (a b d : Int32), up2 (up2 (up2 I 0 7 a) 0 8 b) 0 9 d (58 + 52 * p) 0 = nI nv := fun a b d => by
      rw [up2_j (by omega), up2_j (by omega), up2_j (by omega)]; exact hP.2.2.1.2.2.1
    rw [o2, hP.2.2.2.1, up2_j (show 58 + 52 * p ≠ 0 by omega), d1, d2]
    refine ⟨_, _, _, _, rfl, rfl, Rel_Q5 h (fun j k q => ?_) (fun j m q => fil_j q) (fun k q => by rw [up2_k (by omega), up2_k (by omega), up2_k (by omega), up2_k (by omega)]) (fun _ _ _ => rfl) (Or.inr ⟨p, 0, nv, c, c, c', c', ⟨by omega, np, p1, by rw [up2_k (by decide), up2_k (by decide), up2_k (by decide)]; exact e2', hp⟩, ?_, ?_, ?_, ⟨Nat.zero_le _, hP.2.2.1.1⟩, up2_s _ _ _ _, up2_s _ _ _ _, fun i hi => by omega, fun i _ hi => by unfold fil; rw [if_pos ⟨rfl, by omega⟩], ?_, ?_, d2, ?_, by omega, by omega, Or.inl ⟨rfl, rfl⟩⟩)⟩
    · unfold up2
      rw [if_neg (by omega), if_neg (by omega), if_neg (by omega)]
    · rw [up2_k (by decide), up2_k (by decide), up2_s]
    · rw [up2_k (by decide), up2_k (by decide), up2_s]
    · exact o2 _ _ _
    · rw [up2_j (by omega), up2_j (by omega), up2_j (by omega)]; exact d1
    · rw [up2_k (by decide), up2_s]
    · rw [up2_k (by decide), up2_s]
  · rw [e1, e2]
    exact ⟨_, _, _, _, rfl, rfl, hr⟩
theorem k_with (a1 : Int32) (h : Rel n I G A L J R) : ∃ r I' A' J' R', f_X6_with I A a1 = some (r, I', A') ∧ f_X7_with J R a1 = some (r, J', R') ∧ Rel (n + 1) I' G A' L J' R' := by
  have hr := Rel_J0 h
  obtain ⟨np, z, sc, ⟨p1, p2, p3, p4⟩, q2, q3, q4, _, q5, _⟩ := id h
  have e : ∀ k, k ≠ 0 → up2 J 318 0 0 318 k = J 318 k := fun k q => up0 q
  unfold f_X6_with f_X7_with
  simp only [bd, e 57 (by decide), e 59 (by decide)]
  rcases q5 with ⟨a, b⟩ | ⟨p, ad, nv, c, a, c', a', ⟨hp, hpn⟩, q2, q3, q4, q5, q6, q7, q8, q9, q10, q11, q12, q13, q14, q15, q16⟩
  · rw [if_pos a, if_pos b]
    exact ⟨_, _, _, _, _, rfl, rfl, hr⟩
  · obtain ⟨g0, g1, g2, g3, g10, g11, l1, l2, l3, l10, l11⟩ := pq_all p (by omega)
    obtain ⟨⟨nv2, nr, hP⟩, hK⟩ := p4 p (by omega)
    have hw := hP.2.2.1
    have hnv := hw.1
    have env : nv2 = nv := by
      have q := hw.2.2.1.symm.trans q4
      exact (t_eq (by omega) (by omega)).mp q
    subst env
    rw [q2, q3, q6, q7, if_neg (t_m9 (by omega)), if_neg (t_m9 (by omega))]
    simp (disch := omega) only [gd_in, t_cl, gd_t g0, hP.2.2.2.1, m6]
    unfold f_X1_hasValue
    rw [gd_t g0]
    rcases t_hasV (a := nI ad) hp q4 hnv with ⟨x, x1, x2, x3, x4⟩ | ⟨h1, h2⟩
    · have ex : ad = x := (t_eq (by omega) (by omega)).mp x2
      subst ex
      rw [if_neg (show ¬ nI ad = nI nv2 from fun q => by
        have := (t_eq (by omega) (by omega)).mp q
        omega)]
      obtain ⟨s1, s2, s3⟩ := pr_sz hw x1
      have eR : R 321 (6 * p + ad) = nI (szo A (58 + 52 * p) ad) := (hP.2.2.2.2.2.1 ad (by omega)).trans s1
      simp (disch := omega) only [x3, Option.bind_some, if_neg z10, gd_in, t_cl, eR, (t_wi _ _ _).2, gd_t g1, l1, s1]
      rcases t_ix (a := a1) (m := szo A (58 + 52 * p) ad) (by omega) with ⟨y, y1, rfl, y3, y4, y5⟩ | ⟨h1, h2⟩
      · rw [if_pos y3, if_neg y4, if_pos y5, Option.bind_some, if_neg z10, if_neg z10, nI_1, up2_s, up2_s]
        refine ⟨_, _, _, _, _, rfl, rfl, Rel_Q5 h (fun j k q => ?_) (fun j m q => up2_j q) (fun k q => by rw [up2_k (by omega), up2_k (by omega)]) (fun j m q => up2_j q) (Or.inr ⟨p, ad + 1, nv2, c, a, c', a', ⟨hp, Qn_of (by rw [up2_k (by decide), up2_k (by decide)]) p hpn⟩, ?_, ?_, ?_, ⟨by omega, hnv⟩, up2_s _ _ _ _, up2_s _ _ _ _, fun i hi => ?_, fun i h1 h2 => ?_, ?_, ?_, q12, ?_, q14, q15, q16⟩)⟩
        · unfold up2
          rw [if_neg (by omega)]
        · rw [up2_k (by decide)]; exact q2
        · rw [up2_k (by decide), up2_k (by decide)]; exact q3
        · rw [up2_j (by omega)]; exact q4
        · have e1 : ∀ i, szo (up2 A 18 ad (nI y)) (58 + 52 * p) i = szo A (58 + 52 * p) i := fun i => by unfold szo; rw [up2_j (by omega)]
          rw [e1]
          rcases Nat.lt_or_ge i ad with r | r
          · obtain ⟨m, m1, m2, m3⟩ := q8 i r
            exact ⟨m, m1, by rw [up2_k (by omega)]; exact m2, by rw [up2_k (by omega)]; exact m3⟩
          · have : i = ad := by omega
            subst this
            exact ⟨y, y1, up2_s _ _ _ _, up2_s _ _ _ _⟩
        · rw [up2_k (by omega)]; exact q9 i (by omega) h2
        · rw [up2_j (by omega)]; exact q10
        · rw [up2_k (by decide)]; exact q11
        · rw [up2_k (by decide), up2_k (by decide)]; exact q13
      · rw [if_neg h1]
        have hv : (if a1 < 0 then some (0 : Int32) else if a1 < nI (szo A (58 + 52 * p) ad) then some 1 else some 0) = some 0 := by
          by_cases h0 : a1 < 0
          · rw [if_pos h0]
          · rw [if_neg h0, if_neg (fun q => h2 ⟨h0, q⟩)]
        rw [hv]
        exact ⟨_, _, _, _, _, rfl, rfl, hr⟩
    · have ex : ¬ ad < nv2 := fun q => by
        unfold f_X1_hasVariable at h1
        rw [gd_t g0, q4, if_neg (nI_pos (by omega)), if_pos (nI_lt q (by omega))] at h1
        exact absurd (Option.some.inj h1) (by decide)
      have ex2 : ad = nv2 := by omega
      subst ex2
      rw [if_pos rfl, h1]
      exact ⟨_, _, _, _, _, rfl, rfl, hr⟩
end CD
