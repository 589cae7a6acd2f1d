/-! THE TIE: what a node is -/
theorem ex1_c {p q : Nat → Bool} : ∀ (k i : Nat), (∀ j, i ≤ j → j < i + k → p j = q j) → ex1 p k i = ex1 q k i
  | 0, _, _ => rfl
  | k + 1, i, h => by
    unfold ex1
    rw [h i (Nat.le_refl i) (by omega), ex1_c k (i + 1) (fun j h1 h2 => h j (by omega) (by omega))]
/-- a rule sees its parts' values, weights and sizes, and no more -/
theorem brk_c {I I' A A' : Nat → Nat → Int32} {Q v z n : Nat} (hI : ∀ k, I' Q k = I Q k) (hp : ∀ i, i < n → pv A' Q v i = pv A Q v i) (h1 : ∀ i, A' (Q + 1) i = A (Q + 1) i) (h2 : ∀ i, A' (Q + 2) i = A (Q + 2) i) (hz : ∀ i, A' z i = A z i) : brk I' A' Q v z n = brk I A Q v z n := by
  have el : sm (tl A' Q v z) n 0 0 = sm (tl A Q v z) n 0 0 := sm_c n 0 0 (fun i _ hi => by unfold tl; rw [hp i (by omega), h1, h2, hz])
  have eg : sm (tg A' Q v z) n 0 0 = sm (tg A Q v z) n 0 0 := sm_c n 0 0 (fun i _ hi => by unfold tg; rw [hp i (by omega), h1, h2, hz])
  have ew : sm (tw A' Q v) n 0 0 = sm (tw A Q v) n 0 0 := sm_c n 0 0 (fun i _ hi => by unfold tw; rw [hp i (by omega), h2])
  have eo : ex1 (pov I' A' Q v n) 6 0 = ex1 (pov I A Q v n) 6 0 := ex1_c 6 0 (fun x _ _ => by
    unfold pov
    have e1 : sm (to A' Q v) n 0 0 = sm (to A Q v) n 0 0 := sm_c n 0 0 (fun i _ hi => by unfold to; rw [hp i (by omega), h2])
    have e2 : ∀ a, sm (tv A' Q v (nI x)) n 0 a = sm (tv A Q v (nI x)) n 0 a := fun a => sm_c n 0 a (fun i _ hi => by unfold tv; rw [hp i (by omega), h2])
    rw [e1, e2, hI])
  have en : ∀ d, ex1 (pna A' Q v n d) n 0 = ex1 (pna A Q v n d) n 0 := fun d => ex1_c n 0 (fun i _ hi => by
    unfold pna
    have e1 : ex1 (pnr A' Q v d i) (n - (i + 1)) (i + 1) = ex1 (pnr A Q v d i) (n - (i + 1)) (i + 1) := ex1_c _ _ (fun j j1 j2 => by unfold pnr; rw [hp i (by omega), hp j (by omega)])
    rw [e1, hp i (by omega)])
  have es : ex1 (pst I' A' Q v) (n - 1) 0 = ex1 (pst I A Q v) (n - 1) 0 := ex1_c _ _ (fun i _ hi => by unfold pst; rw [hp i (by omega), hp (i + 1) (by omega), hI])
  unfold brk
  rw [el, eg, ew, eo, es, hI, hI]
  simp only [en]
section WH
variable {I A R : Nat → Nat → Int32} {p B nv nr v : Nat}
theorem brk_np {x : Nat} {w : Int32} {r : Nat} (h : TPr I A R p B nv nr) (hv : v < 58) (hr : r < 8) (hx : x < 6) (hn : A (B + 12 + 5 * r + 3) x = 0) : brk I (up2 A v x w) (B + 12 + 5 * r) v (B + 1) (nP I (B + 12 + 5 * r)) = brk I A (B + 12 + 5 * r) v (B + 1) (nP I (B + 12 + 5 * r)) := by
  have hB := h.2.1
  have hw := h.2.2.1.2.2.2.2.2 r hr
  refine brk_c (fun _ => rfl) (fun i hi => ?_) (fun i => up2_j (by omega)) (fun i => up2_j (by omega)) (fun i => up2_j (by omega))
  unfold pv
  rw [up2_j (show B + 12 + 5 * r + 1 ≠ v by omega)]
  obtain ⟨m, hm, em⟩ := t_in6 (hw.2.2 i hi) (by omega)
  rw [em, t_cl (by omega)]
  refine up2_k (fun e => ?_)
  rcases (h.2.2.2.2.2.2.2 r hr).2.2.2.1 x hx with ⟨_, d⟩ | ⟨d, _⟩
  · exact d i hi (by rw [em, e])
  · exact d hn
theorem out_e {x y : Nat} (h : TPr I A R p B nv nr) (hv : v < 58) (hx : x < 6) (h0 : fbk I A B v nr = -9) : ex1 (plo I A B v x y) nr 0 = 0 ↔ fbk I (up2 A v x (nI y)) B v nr = -9 := by
  have hnr := h.2.2.1.2.1
  unfold fbk at h0 ⊢
  rw [fst1_n nr 0 (by omega)] at h0 ⊢
  constructor
  · intro e j _ hj
    unfold pbr
    rw [decide_eq_false_iff_not, Classical.not_not]
    by_cases hp : A (B + 12 + 5 * j + 3) x = 0
    · rw [brk_np h hv (by omega) hx hp]
      have := h0 j (by omega) hj
      unfold pbr at this
      rw [decide_eq_false_iff_not, Classical.not_not] at this
      exact this
    · refine Classical.byContradiction (fun q => ?_)
      have := (ex1_i (plo I A B v x y) nr 0).mpr ⟨j, by omega, hj, decide_eq_true ⟨hp, q⟩⟩
      rw [e] at this
      exact absurd this z01
  · intro e
    rcases ex1_01 (plo I A B v x y) nr 0 with q | q
    · exact q
    · obtain ⟨j, j1, j2, j3⟩ := (ex1_i _ _ _).mp q
      have j3 := of_decide_eq_true j3
      have := e j j1 j2
      unfold pbr at this
      rw [decide_eq_false_iff_not, Classical.not_not] at this
      exact absurd this j3.2
/-- the least value found, and its cost -/
def LB (A : Nat → Nat → Int32) (B x : Nat) (b a : Int32) : Prop := (b = -9 ∧ a = -1000000) ∨ ∃ m, m < 6 ∧ b = nI m ∧ a = A (B + 4 + x) m ∧ ¬ a = -1000000
theorem c_no {x k : Nat} (h : TPr I A R p B nv nr) (hx : x < 6) (hk : k < 6) : ¬ A (B + 4 + x) k = -1000000 := fun e => by
  have := (h.2.2.2.2.2.2.1 x k hx hk).2.1
  rw [e, show (-1000000 : Int32).toInt = -1000000 by decide] at this
  omega
theorem r_least_L {x s : Nat} {a2 : Int32} {J : Nat → Nat → Int32} {k31 : Int32 → (Nat → Nat → Int32) → Option (Int32 × (Nat → Nat → Int32) × (Nat → Nat → Int32))} (h : TPr I A R p B nv nr) (hr : TRo A R v) (hv : v < 58) (hx : x < 6) (hs : s ≤ 6) (es : A (B + 1) x = nI s) (h0 : fbk I A B v nr = -9) : ∀ (k y fu : Nat) (b a : Int32), y + k = s → k < fu → LB A B x b a → ∃ b', f_X7_whatIs_L138 (nI x) (nI p) a2 J k31 fu (nI y) b R = k31 b' R ∧ LB A B x b' (lcs I A B v x nr k y a) := by
  have hp := h.1
  have e1 := (h.2.2.2.2.2.1 x hx).trans es
  intro k
  induction k with
  | zero =>
    intro y fu b a hy hf hb
    obtain ⟨fu, rfl⟩ : ∃ z, fu = z + 1 := ⟨fu - 1, by omega⟩
    have hlt : ¬ y < s := by omega
    refine ⟨b, ?_, hb⟩
    simp (disch := omega) only [f_X7_whatIs_L138, m6, gd_in, t_cl, e1, t_lt, hlt, if_false]
  | succ k ih =>
    intro y fu b a hy hf hb
    obtain ⟨fu, rfl⟩ : ∃ z, fu = z + 1 := ⟨fu - 1, by omega⟩
    have hlt : y < s := by omega
    rw [f_X7_whatIs_L138, m6, gd_in (by omega) (by omega), t_cl (by omega), e1, if_pos (nI_lt hlt (by omega)), r_isOut h hr hv hx (by omega), Option.bind_some, nI_1, lcs]
    by_cases ho : fbk I (up2 A v x (nI y)) B v nr = -9
    · simp only [if_pos ho, if_true]
      have hq := (out_e (y := y) h hv hx h0).mpr ho
      rcases hb with ⟨b1, b2⟩ | ⟨m, hm, b1, b2, b3⟩
      · rw [if_pos b1, if_pos ⟨hq, Or.inl b2⟩]
        exact ih (y + 1) fu _ _ (by omega) (by omega) (Or.inr ⟨y, by omega, rfl, rfl, c_no h hx (by omega)⟩)
      · subst b1
        rw [if_neg (t_m9 (by omega)), r_costAt h hx (show y < 6 by omega), r_costAt h hx hm]
        simp only [Option.bind_some]
        by_cases hc : A (B + 4 + x) y < A (B + 4 + x) m
        · rw [if_pos hc, if_pos ⟨hq, Or.inr (by rw [b2]; exact hc)⟩]
          exact ih (y + 1) fu _ _ (by omega) (by omega) (Or.inr ⟨y, by omega, rfl, rfl, c_no h hx (by omega)⟩)
        · rw [if_neg hc, if_neg (fun q => q.2.elim b3 (fun q => hc (by rw [← b2]; exact q)))]
          exact ih (y + 1) fu _ _ (by omega) (by omega) (Or.inr ⟨m, hm, rfl, b2, b3⟩)
    · simp only [if_neg ho, z10, if_false]
      rw [if_neg (fun q => ho ((out_e h hv hx h0).mp q.1))]
      exact ih (y + 1) fu _ _ (by omega) (by omega) hb
/-- the bound's loop -/
theorem r_bnd_L {d : Nat} {J : Nat → Nat → Int32} {k16 : Int32 → (Nat → Nat → Int32) → (Nat → Nat → Int32) → Option (Int32 × (Nat → Nat → Int32) × (Nat → Nat → Int32))} {k21 : (Nat → Nat → Int32) → (Nat → Nat → Int32) → Option (Int32 × (Nat → Nat → Int32) × (Nat → Nat → Int32))} (h : TPr I A R p B nv nr) (hr : TRo A R v) (hv : v < 58) (hro : RoW A B v d) (hd : d ≤ nv) (h0 : fbk I A B v nr = -9) : ∀ (k i fu : Nat) (a : Int32), i + k = nv → k < fu → ((bnd I A B v nr d k i a).1 = 0 → f_X7_whatIs_L88 (nI p) (nI d) k16 k21 fu (nI i) (up2 J 318 65 a) R = k21 (up2 J 318 65 (bnd I A B v nr d k i a).2.2) R) ∧ (¬ (bnd I A B v nr d k i a).1 = 0 → (bnd I A B v nr d k i a).1 = 3 ∧ ∃ s, f_X7_whatIs_L88 (nI p) (nI d) k16 k21 fu (nI i) (up2 J 318 65 a) R = k16 (bnd I A B v nr d k i a).2.1 (up2 J 318 65 s) R) := by
  have hp := h.1
  have hnv := h.2.2.1.1
  have e1 := h.2.2.2.1
  intro k
  induction k with
  | zero =>
    intro i fu a hi hf
    obtain ⟨fu, rfl⟩ : ∃ z, fu = z + 1 := ⟨fu - 1, by omega⟩
    have hlt : ¬ i < nv := by omega
    unfold bnd
    refine ⟨fun _ => ?_, fun q => absurd rfl q⟩
    simp (disch := omega) only [f_X7_whatIs_L88, gd_in, t_cl, e1, t_lt, hlt, if_false]
  | succ k ih =>
    intro i fu a hi hf
    obtain ⟨fu, rfl⟩ : ∃ z, fu = z + 1 := ⟨fu - 1, by omega⟩
    have hlt : i < nv := by omega
    rw [f_X7_whatIs_L88, gd_in hp (by omega), t_cl (by omega), e1, if_pos (nI_lt hlt (by omega)), bnd]
    by_cases hid : i < d
    · have el : lbd I A B v nr d i = A (B + 4 + i) (A v i).toNatClampNeg := if_pos hid
      obtain ⟨m, hm, em⟩ := t_in6 (hro.1 i hid) (by have := (pr_sz h.2.2.1 hlt).2.2; omega)
      have hm6 : m < 6 := by have := (pr_sz h.2.2.1 hlt).2.2; omega
      have er : R 364 i = nI m := by
        rcases hr i (by omega) with ⟨q1, q2⟩ | ⟨m', hm', q1, q2⟩
        · rw [em] at q1; exact absurd q1 (t_m1 (by omega))
        · rw [q2, ← q1, em]
      rw [em, t_cl (by omega)] at el
      rw [if_pos (nI_lt hid (by omega)), gd_in (by omega) (by omega), t_cl (by omega), er, r_costAt h (by omega) hm6, Option.bind_some, el, if_neg (c_no h (by omega) hm6)]
      simp only [bd, up2_s, up2_up2, nI_1]
      exact ih (i + 1) fu _ (by omega) (by omega)
    · have el : lbd I A B v nr d i = lcs I A B v i nr (szo A B i) 0 (-1000000) := if_neg hid
      obtain ⟨s1, s2, s3⟩ := pr_sz h.2.2.1 hlt
      rw [if_neg (nI_nlt (by omega) (by omega)), bd]
      obtain ⟨b', q1, q2⟩ := r_least_L (a2 := nI d) (J := up2 J 318 65 a) (k31 := fun (v32 : Int32) (A33 : Nat → Nat → Int32) => if v32 = (-9) then (k16 (nI i) (up2 J 318 65 a) A33) else (Option.bind (f_X7_costAt A33 (nI p) (nI i) v32) fun r35 => bd (up2 (up2 J 318 65 a) 318 65 (((up2 J 318 65 a) 318 65) + r35)) fun I37 => f_X7_whatIs_L88 (nI p) (nI d) k16 k21 fu (nI i + 1) I37 A33)) h hr hv (by omega) s3 s1 h0 (szo A B i) 0 FU (-9) (-1000000) (by omega) (t_fu _ (by omega)) (Or.inl ⟨rfl, rfl⟩)
      have q1 : f_X7_whatIs_L138 (nI i) (nI p) (nI d) (up2 J 318 65 a) _ FU 0 (-9) R = _ := q1
      rw [q1, el]
      rcases q2 with ⟨b1, b2⟩ | ⟨m, hm, b1, b2, b3⟩
      · rw [b2, if_pos rfl]
        refine ⟨fun q => absurd (show (3 : Int32) = 0 from q) (by decide), fun _ => ⟨rfl, a, ?_⟩⟩
        simp only [b1, if_true]
      · subst b1
        rw [if_neg b3]
        simp only [if_neg (t_m9 (n := m) (by omega)), r_costAt h (show i < 6 by omega) hm, Option.bind_some, bd, up2_s, up2_up2, nI_1, b2]
        exact ih (i + 1) fu _ (by omega) (by omega)
/-- twins -/
theorem r_twin_L {d : Nat} {mt : Int32} {J : Nat → Nat → Int32} {k7 : Int32 → Option (Int32 × (Nat → Nat → Int32) × (Nat → Nat → Int32))} {k10 : Unit → Option (Int32 × (Nat → Nat → Int32) × (Nat → Nat → Int32))} (h : TPr I A R p B nv nr) (hr : TRo A R v) (hro : RoW A B v (d + 1)) (hd : d < nv) (hmt : ¬ mt = 0) : ∀ (k i fu : Nat), i + k = d → k < fu → f_X7_whatIs_L23 (nI p) (nI (d + 1)) mt J R k7 k10 fu (nI i) = if fst1 (ptw I A B v nr d) k i = -9 then k10 () else k7 (fst1 (ptw I A B v nr d) k i) := by
  have hp := h.1
  have hnv := h.2.2.1.1
  have hval : ∀ i, i ≤ d → A v i = R 364 i := fun i hi => by
    have s3 := (pr_sz h.2.2.1 (show i < nv by omega)).2.2
    obtain ⟨m, hm, em⟩ := t_in6 (hro.1 i (by omega)) (by omega)
    rcases hr i (by omega) with ⟨q1, q2⟩ | ⟨m', hm', q1, q2⟩
    · rw [em] at q1; exact absurd q1 (t_m1 (by omega))
    · rw [q1, q2]
  intro k
  induction k with
  | zero =>
    intro i fu hi hf
    obtain ⟨fu, rfl⟩ : ∃ z, fu = z + 1 := ⟨fu - 1, by omega⟩
    rw [f_X7_whatIs_L23, nI_1, if_neg (nI_nlt (by omega) (by omega))]
    rfl
  | succ k ih =>
    intro i fu hi hf
    obtain ⟨fu, rfl⟩ : ∃ z, fu = z + 1 := ⟨fu - 1, by omega⟩
    rw [fst1_if (by omega), f_X7_whatIs_L23, nI_1, if_pos (nI_lt (by omega) (by omega)), if_neg hmt, gd_in (by omega) (by omega), nI_pred, gd_in (by omega) (by omega), t_cl (by omega), t_cl (by omega), ← hval i (by omega), ← hval d (by omega), r_areLike h (by omega) (by omega), Option.bind_some, ih (i + 1) fu (by omega) (by omega)]
    by_cases hc : A v d < A v i
    · rw [if_pos hc]
      by_cases ht : twn I A B nr (szo A B i) i d = 0
      · have e : ¬ ptw I A B v nr d i = true := by unfold ptw; rw [decide_eq_true_iff]; exact fun q => q.2 ht
        rw [if_pos ht, if_neg e]
      · have e : ptw I A B v nr d i = true := decide_eq_true ⟨hc, ht⟩
        rw [if_neg ht, if_pos e]
    · have e : ¬ ptw I A B v nr d i = true := by unfold ptw; rw [decide_eq_true_iff]; exact fun q => hc q.1
      rw [if_neg hc, if_neg e]
/-- the judgement -/
theorem r_whatIs {d : Nat} {mt : Int32} {J : Nat → Nat → Int32} (h : TPr I A R p B nv nr) (hr : TRo A R v) (hv : v < 58) (hro : RoW A B v d) (hd : d ≤ nv) : ∃ J', f_X7_whatIs J R (nI p) (nI d) mt = some ((lk I A B v nv nr d mt).1, J', R) ∧ (∀ j k, ¬ (j = 318 ∧ (k = 64 ∨ k = 65)) → J' j k = J j k) ∧ ((lk I A B v nv nr d mt).1 = 0 → J' 318 65 = (lk I A B v nv nr d mt).2.2) ∧ (¬ (lk I A B v nv nr d mt).1 = 0 → J' 318 64 = (lk I A B v nv nr d mt).2.1) := by
  have hnv := h.2.2.1.1
  have hup : ∀ (F : Nat → Nat → Int32) (q : Nat) (w : Int32), (q = 64 ∨ q = 65) → (∀ j k, ¬ (j = 318 ∧ (k = 64 ∨ k = 65)) → F j k = J j k) → ∀ j k, ¬ (j = 318 ∧ (k = 64 ∨ k = 65)) → up2 F 318 q w j k = J j k := fun F q w hq hF j k hj => by
    unfold up2
    rw [if_neg (fun e => hj ⟨e.1, by rw [e.2]; exact hq⟩)]
    exact hF j k hj
  unfold lk f_X7_whatIs
  rw [r_brokenBy h hr, Option.bind_some]
  simp only [bd, up2_s]
  by_cases h0 : fbk I A B v nr = -9
  · rw [if_pos h0, if_pos h0]
    -- behind the twins
    have hk10 : ∀ (J3 : Nat → Nat → Int32), (∀ j k, ¬ (j = 318 ∧ (k = 64 ∨ k = 65)) → J3 j k = J j k) → ∃ J', f_X7_whatIs_L88 (nI p) (nI d) (fun (v17 : Int32) (I18 : Nat → Nat → Int32) (A19 : Nat → Nat → Int32) => some ((3 : Int32), up2 I18 318 64 v17, A19)) (fun (I22 : Nat → Nat → Int32) (A23 : Nat → Nat → Int32) => some ((0 : Int32), I22, A23)) FU 0 (up2 J3 318 65 0) R = some ((bnd I A B v nr d nv 0 0).1, J', R) ∧ (∀ j k, ¬ (j = 318 ∧ (k = 64 ∨ k = 65)) → J' j k = J j k) ∧ ((bnd I A B v nr d nv 0 0).1 = 0 → J' 318 65 = (bnd I A B v nr d nv 0 0).2.2) ∧ (¬ (bnd I A B v nr d nv 0 0).1 = 0 → J' 318 64 = (bnd I A B v nr d nv 0 0).2.1) := fun J3 hJ3 => by
      obtain ⟨q1, q2⟩ := r_bnd_L (d := d) (J := J3) (k16 := fun (v17 : Int32) (I18 : Nat → Nat → Int32) (A19 : Nat → Nat → Int32) => some ((3 : Int32), up2 I18 318 64 v17, A19)) (k21 := fun (I22 : Nat → Nat → Int32) (A23 : Nat → Nat → Int32) => some ((0 : Int32), I22, A23)) h hr hv hro hd h0 nv 0 FU 0 (by omega) (t_fu _ (by omega))
      by_cases hb : (bnd I A B v nr d nv 0 0).1 = 0
      · refine ⟨_, (q1 hb).trans (by rw [hb]), hup _ 65 _ (Or.inr rfl) hJ3, fun _ => up2_s _ _ _ _, fun q => absurd hb q⟩
      · obtain ⟨q3, s, q4⟩ := q2 hb
        refine ⟨_, q4.trans (by rw [q3]), hup _ 64 _ (Or.inl rfl) (hup _ 65 _ (Or.inr rfl) hJ3), fun q => absurd q hb, fun _ => up2_s _ _ _ _⟩
    have hJ3 := hup J 64 (-9) (Or.inl rfl) (fun _ _ _ => rfl)
    rw [h0]
    by_cases hmt : mt = 0
    · rw [if_pos (Or.inl hmt)]
      obtain ⟨fu, efu⟩ : ∃ z, FU = z + 1 := ⟨FU - 1, by have := FU_le; omega⟩
      have e : ∀ (k7 : Int32 → Option (Int32 × (Nat → Nat → Int32) × (Nat → Nat → Int32))) (k10 : Unit → Option (Int32 × (Nat → Nat → Int32) × (Nat → Nat → Int32))), f_X7_whatIs_L23 (nI p) (nI d) mt (up2 J 318 64 (-9)) R k7 k10 FU 0 = k10 () := fun k7 k10 => by
        rw [efu, f_X7_whatIs_L23, if_pos hmt]
        split <;> rfl
      rw [e]
      exact hk10 _ hJ3
    · by_cases hd0 : d = 0
      · rw [if_pos (Or.inr (Or.inl hd0))]
        obtain ⟨fu, efu⟩ : ∃ z, FU = z + 1 := ⟨FU - 1, by have := FU_le; omega⟩
        have e : ∀ (k7 : Int32 → Option (Int32 × (Nat → Nat → Int32) × (Nat → Nat → Int32))) (k10 : Unit → Option (Int32 × (Nat → Nat → Int32) × (Nat → Nat → Int32))), f_X7_whatIs_L23 (nI p) (nI d) mt (up2 J 318 64 (-9)) R k7 k10 FU 0 = k10 () := fun k7 k10 => by
          rw [efu, f_X7_whatIs_L23, hd0, if_neg (by decide)]
        rw [e]
        exact hk10 _ hJ3
      · obtain ⟨d', rfl⟩ : ∃ z, d = z + 1 := ⟨d - 1, by omega⟩
        have e := fun k7 k10 => r_twin_L (mt := mt) (J := up2 J 318 64 (-9)) (k7 := k7) (k10 := k10) h hr hro (by omega) hmt d' 0 FU (by omega) (t_fu _ (by omega))
        have e : ∀ (k7 : Int32 → Option (Int32 × (Nat → Nat → Int32) × (Nat → Nat → Int32))) (k10 : Unit → Option (Int32 × (Nat → Nat → Int32) × (Nat → Nat → Int32))), f_X7_whatIs_L23 (nI p) (nI (d' + 1)) mt (up2 J 318 64 (-9)) R k7 k10 FU 0 = if ftw I A B v nr d' = -9 then k10 () else k7 (ftw I A B v nr d') := e
        rw [e, Nat.add_sub_cancel]
        by_cases hf : ftw I A B v nr d' = -9
        · rw [if_pos hf, if_pos (Or.inr (Or.inr hf))]
          exact hk10 _ hJ3
        · rw [if_neg hf, if_neg (fun q => q.elim hmt (fun q => q.elim hd0 hf))]
          exact ⟨_, rfl, hup _ 64 _ (Or.inl rfl) hJ3, fun q => absurd (show (2 : Int32) = 0 from q) (by decide), fun _ => up2_s _ _ _ _⟩
  · rw [if_neg h0, if_neg h0]
    exact ⟨_, rfl, hup J 64 _ (Or.inl rfl) (fun _ _ _ => rfl), fun q => absurd (show (1 : Int32) = 0 from q) (by decide), fun _ => up2_s _ _ _ _⟩
end WH
