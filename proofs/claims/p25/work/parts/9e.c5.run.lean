/-! p25: a run of the solving, at rest -/
section RN
variable {I A J R : Nat → Nat → Int32} {B v p nv nr nn dd tk tn z lim n m a h : Nat}
/-- the parent -/
def Par (R : Nat → Nat → Int32) (n a : Nat) : Prop := a < n ∧ R 342 n = nI a
/-- the nodes -/
def M2 (I A R : Nat → Nat → Int32) (B v nv nr nn : Nat) : Prop := ∀ n, n < nn → NdS I A R B v nv nr n ∧ ((n = 0 ∧ dn R n = 0 ∧ R 342 n = -9) ∨ ∃ a, Par R n a ∧ dn R n = dn R a + 1 ∧ (∀ i, i < dn R a → wn R n i = wn R a i) ∧ R 344 a = 1)
/-- done and taken -/
def M3 (R : Nat → Nat → Int32) (nn : Nat) : Prop := ∀ n, n < nn → (R 344 n = 0 ∨ R 344 n = 1) ∧ (R 345 n = 0 ∨ R 345 n = 1) ∧ (R 345 n = 1 → R 344 n = 1) ∧ (R 343 n = -9 → R 344 n = 0)
/-- a done node's children: all of them, and each once -/
def M4 (I A R : Nat → Nat → Int32) (B v nv nr nn : Nat) : Prop := (∀ n, n < nn → R 344 n = 1 → dn R n < nv → ∀ x, x < szo A B (dn R n) → (lkw I A B v nv nr (wx (wn R n) (dn R n) x) (dn R n + 1)).1 = 0 → ∃ m, m < nn ∧ R 342 m = nI n ∧ wn R m (dn R n) = x) ∧ ∀ n m m', n < nn → m < nn → m' < nn → R 342 m = nI n → R 342 m' = nI n → wn R m (dn R n) = wn R m' (dn R n) → m = m'
/-- who holds what -/
def M5 (R : Nat → Nat → Int32) (nn z : Nat) : Prop := (∀ n, n < nn → R 343 n = -9 ∨ ∃ h, h < z ∧ R 343 n = nI h ∧ (R 344 n = 1 ∨ R 337 h = nI n)) ∧ ∀ h, h < z → R 335 h = 0 ∧ (R 337 h = -9 ∨ ∃ n, n < nn ∧ R 337 h = nI n ∧ R 343 n = nI h ∧ R 344 n = 0)
/-- picked, and behind n -/
def pkb (R : Nat → Nat → Int32) (n : Nat) : Nat → Bool := fun x => decide (¬ R 343 x = -9) && qlt R n x
/-- how long helper h has held, in turns -/
def el (tn z h : Nat) : Nat := (tn + z - 1 - h) % z
def M6 (R : Nat → Nat → Int32) (nn tn z : Nat) : Prop := ∀ n, n < nn → R 344 n = 0 → (R 343 n = -9 → cnt (pkb R n) nn ≤ 4 * (dn R n - 1)) ∧ ∀ h, h < z → R 343 n = nI h → cnt (pkb R n) nn ≤ 4 * (dn R n - 1) + el tn z h
def dnb (R : Nat → Nat → Int32) : Nat → Bool := fun x => decide (R 344 x = 1)
def tkb (R : Nat → Nat → Int32) : Nat → Bool := fun x => decide (R 345 x = 1)
def M7 (R : Nat → Nat → Int32) (nn dd tk : Nat) : Prop := cnt (dnb R) nn = dd ∧ cnt (tkb R) nn = tk
/-- reached by the first k of the walk -/
def Rch (R : Nat → Nat → Int32) (k n : Nat) : Prop := n = 0 ∨ ∃ a j, R 342 n = nI a ∧ j < k ∧ R 346 j = nI a
/-- the walk so far: each the least of those that the ones before it reach -/
def M8 (R : Nat → Nat → Int32) (nn tk : Nat) : Prop := (∀ k, k < tk → ∃ m, m < nn ∧ R 346 k = nI m ∧ R 345 m = 1 ∧ Rch R k m ∧ ∀ x, x < nn → Rch R k x → (∀ j, j < k → R 346 j ≠ nI x) → x = m ∨ Lt R m x) ∧ (∀ m, m < nn → R 345 m = 1 → ∃ k, k < tk ∧ R 346 k = nI m) ∧ ∀ k k', k < tk → k' < tk → R 346 k = R 346 k' → k = k'
/-- why it goes on -/
def M9 (R : Nat → Nat → Int32) (nv tk : Nat) (lim : Int32) : Prop := ∀ k m, k < tk → R 346 k = nI m → m < 2000 → dn R m < nv ∧ ¬ k + 1 = 250 ∧ ¬ nI (k + 1) = lim
def MV (I A J R : Nat → Nat → Int32) (p B v nv nr nn dd tk tn z : Nat) : Prop := TPr I A R p B nv nr ∧ v < 58 ∧ 1 ≤ z ∧ z ≤ 5 ∧ J 318 29 = nI nn ∧ J 318 30 = nI dd ∧ J 318 31 = nI tk ∧ (nn ≤ 1 + 6 * dd ∧ dd ≤ 280) ∧ tk ≤ 250 ∧ M2 I A R B v nv nr nn ∧ M3 R nn ∧ M4 I A R B v nv nr nn ∧ M5 R nn z ∧ M6 R nn tn z ∧ M7 R nn dd tk ∧ M8 R nn tk
theorem nd_b (hP : TPr I A R p B nv nr) (hn : NdS I A R B v nv nr n) : dn R n ≤ 6 ∧ ∀ i, i < dn R n → wn R n i < 6 := by
  have hnv := hP.2.2.1.1
  refine ⟨by have := hn.1; omega, fun i hi => ?_⟩
  have h1 := (hn.2.2.1 i hi).2
  have h2 := (pr_sz hP.2.2.1 (show i < nv by have := hn.1; omega)).2.2
  omega
/-- one row, one node -/
theorem nd_u (hP : TPr I A R p B nv nr) (h2 : M2 I A R B v nv nr nn) (h4 : M4 I A R B v nv nr nn) : ∀ (d n m : Nat), n < nn → m < nn → dn R n = d → dn R m = d → (∀ i, i < d → wn R n i = wn R m i) → n = m := by
  intro d
  induction d with
  | zero =>
    intro n m hn hm e1 e2 _
    rcases (h2 n hn).2 with ⟨r, _⟩ | ⟨a, _, r, _⟩
    · rcases (h2 m hm).2 with ⟨q, _⟩ | ⟨b, _, q, _⟩ <;> omega
    · omega
  | succ d ih =>
    intro n m hn hm e1 e2 hw
    rcases (h2 n hn).2 with ⟨_, r, _⟩ | ⟨a, ⟨a1, a2⟩, r, a3, a4⟩
    · omega
    · rcases (h2 m hm).2 with ⟨_, q, _⟩ | ⟨b, ⟨b1, b2⟩, q, b3, b4⟩
      · omega
      · have hab := ih a b (by omega) (by omega) (by omega) (by omega) (fun i hi => by rw [← a3 i (by omega), ← b3 i (by omega)]; exact hw i (by omega))
        subst hab
        exact h4.2 a n m (by omega) hn hm a2 b2 (hw (dn R a) (by omega))
theorem nd_k (hP : TPr I A R p B nv nr) (h2 : M2 I A R B v nv nr nn) (h4 : M4 I A R B v nv nr nn) (hn : n < nn) (hm : m < nn) (hne : n ≠ m) : Lt R n m ∨ Lt R m n := by
  refine Lt_tot fun e => hne ?_
  have a := (h2 n hn).1
  have b := (h2 m hm).1
  obtain ⟨a6, aw⟩ := nd_b hP a
  obtain ⟨b6, bw⟩ := nd_b hP b
  rw [a.2.2.2.2.1, b.2.2.2.2.1] at e
  have l1 := e7_lt aw
  have l2 := e7_lt bw
  obtain ⟨q1, q2⟩ := e7_inj aw bw a6 b6 ((t_eq (by omega) (by omega)).mp e)
  exact nd_u hP h2 h4 (dn R m) n m hn hm q1 rfl (fun i hi => q2 i (by omega))
/-- a child comes behind its parent -/
theorem nd_ch (hP : TPr I A R p B nv nr) (hv : v < 58) (hn : NdS I A R B v nv nr n) (ha : NdS I A R B v nv nr a) (hd : dn R n = dn R a + 1) (hw : ∀ i, i < dn R a → wn R n i = wn R a i) : Lt R a n := by
  have hnv := hP.2.2.1.1
  obtain ⟨a1, a2, a3, a4, a5, a6, a7⟩ := ha
  obtain ⟨n1, n2, n3, n4, n5, n6, n7⟩ := hn
  have hww : ∀ i, i < dn R a + 1 → wn R n i = wx (wn R a) (dn R a) (wn R n (dn R a)) i := fun i hi => by
    unfold wx
    by_cases e : i = dn R a
    · rw [if_pos e, e]
    · rw [if_neg e]; exact hw i (by omega)
  rw [hd] at n5 n6 n7
  rw [lkw_c hww] at n6 n7
  rw [e7_c hww] at n5
  have hb := lkw_mono hP hv (w := wn R a) (d := dn R a) (y := wn R n (dn R a)) (fun i hi => (a3 i hi).2) (by omega) (n3 (dn R a) (by omega)).2 a6 n6
  have hk := e7_x (w := wn R a) (d := dn R a) (y := wn R n (dn R a)) (by omega)
  have hl := e7_lt (w := wx (wn R a) (dn R a) (wn R n (dn R a))) (d := dn R a + 1) (fun i hi => by
    rw [← hww i hi]
    have q1 := (n3 i (by omega)).2
    have q2 := (pr_sz hP.2.2.1 (show i < nv by omega)).2.2
    omega)
  unfold Lt
  rw [a7, n7, a5, n5, nI_toInt (by omega), nI_toInt (by omega)]
  omega
theorem par_lt (hP : TPr I A R p B nv nr) (hv : v < 58) (h2 : M2 I A R B v nv nr nn) (hb : nn < 2000) (hn : n < nn) (ha : Par R n a) : Lt R a n := by
  have an := ha.1
  rcases (h2 n hn).2 with ⟨r, _, e⟩ | ⟨b, ⟨b1, b2⟩, b3, b4, b5⟩
  · subst r; omega
  · obtain rfl : a = b := (t_eq (by have := ha.1; omega) (by omega)).mp (ha.2.symm.trans b2)
    exact nd_ch hP hv (h2 n hn).1 (h2 a (by omega)).1 b3 b4
/-- every node not taken has one at or above it that is reached -/
theorem top_r (h2 : M2 I A R B v nv nr nn) (hP : TPr I A R p B nv nr) (hv : v < 58) (h3 : M3 R nn) (hb : nn < 2000) : ∀ (k n : Nat), n ≤ k → n < nn → R 345 n = 0 → ∃ x, x < nn ∧ R 345 x = 0 ∧ (R 342 x = -9 ∨ ∃ a, a < nn ∧ R 342 x = nI a ∧ R 345 a = 1) ∧ (x = n ∨ Lt R x n) := by
  intro k
  induction k with
  | zero =>
    intro n h0 hn ht
    obtain rfl : n = 0 := by omega
    rcases (h2 0 hn).2 with ⟨_, _, e⟩ | ⟨a, ⟨a1, _⟩, _⟩
    · exact ⟨0, hn, ht, Or.inl e, Or.inl rfl⟩
    · omega
  | succ k ih =>
    intro n h0 hn ht
    rcases (h2 n hn).2 with ⟨_, _, e⟩ | ⟨a, ⟨a1, a2⟩, a3, a4, a5⟩
    · exact ⟨n, hn, ht, Or.inl e, Or.inl rfl⟩
    · by_cases q : R 345 a = 1
      · exact ⟨n, hn, ht, Or.inr ⟨a, by omega, a2, q⟩, Or.inl rfl⟩
      · have q0 : R 345 a = 0 := (h3 a (by omega)).2.1.resolve_right q
        obtain ⟨x, x1, x2, x3, x4⟩ := ih a (by omega) (by omega) q0
        refine ⟨x, x1, x2, x3, Or.inr ?_⟩
        have hl := par_lt hP hv h2 hb hn ⟨a1, a2⟩
        rcases x4 with rfl | x4
        · exact hl
        · exact Lt_tr x4 hl
/-- the walk's next comes before all that are not taken -/
theorem nx_l (h2 : M2 I A R B v nv nr nn) (hP : TPr I A R p B nv nr) (hv : v < 58) (h3 : M3 R nn) (h4 : M4 I A R B v nv nr nn) (hx : nxw R nn = some m) (hnn : nn < 2000) : m < nn ∧ R 345 m = 0 ∧ (R 342 m = -9 ∨ ∃ a, a < nn ∧ R 342 m = nI a ∧ R 345 a = 1) ∧ ∀ x, x < nn → R 345 x = 0 → x = m ∨ Lt R m x := by
  unfold nxw at hx
  have hm := amin_o _ _ _ hx
  have hq : m ∈ List.range' 0 nn ∧ qwk R m = true := hm.resolve_left (by simp)
  have hmn : m < nn := by have := (List.mem_range'_1.mp hq.1).2; omega
  have hw := of_decide_eq_true hq.2
  have rch : ∀ x, x < nn → (R 342 x = -9 ∨ ∃ a, a < nn ∧ R 342 x = nI a ∧ R 345 a = 1) → (R 342 x = -9 ∨ ¬ R 345 (R 342 x).toNatClampNeg = 0) := fun x _ q => by
    rcases q with q | ⟨a, q1, q2, q3⟩
    · exact Or.inl q
    · right; rw [q2, t_cl (by omega), q3]; decide
  have hr : R 342 m = -9 ∨ ∃ a, a < nn ∧ R 342 m = nI a ∧ R 345 a = 1 := by
    rcases (h2 m hmn).2 with ⟨_, _, e⟩ | ⟨a, ⟨a1, a2⟩, _⟩
    · exact Or.inl e
    · refine Or.inr ⟨a, by omega, a2, ?_⟩
      rcases hw.2 with e | e
      · rw [a2] at e; exact absurd e (t_m9 (by omega))
      · rw [a2, t_cl (by omega)] at e
        exact (h3 a (by omega)).2.1.resolve_left e
  refine ⟨hmn, hw.1, hr, fun x hx1 hx2 => ?_⟩
  obtain ⟨y, y1, y2, y3, y4⟩ := top_r h2 hP hv h3 hnn x x (Nat.le_refl _) hx1 hx2
  have hy := (amin_l _ _ _ hx).2 y (List.mem_range'_1.mpr ⟨by omega, by omega⟩) (decide_eq_true ⟨y2, rch y y1 y3⟩)
  have key : y = m ∨ Lt R m y := by
    rcases hy with e | e
    · exact Or.inl e.symm
    · by_cases q : y = m
      · exact Or.inl q
      · exact Or.inr ((nd_k hP h2 h4 y1 hmn q).resolve_left e)
  rcases y4 with rfl | y4
  · exact key
  · rcases key with rfl | key
    · exact Or.inr y4
    · exact Or.inr (Lt_tr key y4)
/-- the helpers are never too far ahead -/
theorem ahead (h : MV I A J R p B v nv nr nn dd tk tn z) (hx : nxw R nn = some m) (hd : R 344 m = 0) : dd ≤ tk + 24 := by
  obtain ⟨hP, hv, z1, z5, j1, j2, j3, hnn, ht, h2, h3, h4, h5, h6, ⟨h7a, h7b⟩, h8⟩ := h
  have hdd : cnt (dnb R) nn = cnt (tkb R) nn + cnt (fun i => dnb R i && !tkb R i) nn := cnt_p nn (fun i hi q => decide_eq_true ((h3 i hi).2.2.1 (of_decide_eq_true q)))
  have hnn2 : nn < 2000 := by omega
  have : True := trivial
  · obtain ⟨m1, m2, m3, m4⟩ := nx_l h2 hP hv h3 h4 hx hnn2
    have hc : cnt (fun i => dnb R i && !tkb R i) nn ≤ cnt (pkb R m) nn := cnt_le nn (fun i hi q => by
      rw [Bool.and_eq_true] at q
      have q1 : R 344 i = 1 := of_decide_eq_true q.1
      have q2 : ¬ R 345 i = 1 := fun r => by
        have := q.2
        unfold tkb at this
        rw [decide_eq_true r] at this
        exact absurd this (by decide)
      have q3 : R 345 i = 0 := (h3 i hi).2.1.resolve_right q2
      have hne : i ≠ m := fun e => by rw [e, hd] at q1; exact absurd q1 (by decide)
      have hlt := (m4 i hi q3).resolve_left hne
      unfold pkb
      rw [Bool.and_eq_true]
      refine ⟨decide_eq_true fun r => ?_, qlt_i.mpr hlt⟩
      have := (h3 i hi).2.2.2 r
      rw [q1] at this
      exact absurd this (by decide))
    have hb : cnt (pkb R m) nn ≤ 24 := by
      have d6 := (nd_b hP (h2 m m1).1).1
      rcases h5.1 m m1 with e | ⟨h, hh, e, _⟩
      · have := (h6 m m1 hd).1 e; omega
      · have := (h6 m m1 hd).2 h hh e
        have el4 : el tn z h < z := Nat.mod_lt _ (by omega)
        by_cases d0 : dn R m = 0
        · have hz : cnt (pkb R m) nn ≤ 4 * 0 + 4 := by rw [d0] at this; omega
          omega
        · omega
    omega
end RN
