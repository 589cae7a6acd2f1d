/-! THE TIE: trees. The reference keeps the OPEN nodes alone, in the class's order: node n of it is node (fi n) of the class -/
def os (A : Nat → Nat → Int32) (T kn : Nat) : List Nat := (List.range kn).filter (fun c => decide (A (T + 3) c = 0))
def fi (A : Nat → Nat → Int32) (T kn n : Nat) : Nat := (os A T kn).getD n 0
theorem os_mem {A : Nat → Nat → Int32} {T kn c : Nat} : c ∈ os A T kn ↔ c < kn ∧ A (T + 3) c = 0 := by
  unfold os
  rw [List.mem_filter, List.mem_range, decide_eq_true_iff]
theorem fi_get {A : Nat → Nat → Int32} {T kn n : Nat} (h : n < (os A T kn).length) : fi A T kn n = (os A T kn)[n] := by
  unfold fi
  rw [List.getD_eq_getElem?_getD, List.getElem?_eq_getElem h]
  rfl
theorem fi_mem {A : Nat → Nat → Int32} {T kn n : Nat} (h : n < (os A T kn).length) : fi A T kn n < kn ∧ A (T + 3) (fi A T kn n) = 0 := by
  rw [fi_get h]
  exact os_mem.mp (List.getElem_mem h)
theorem os_pw (A : Nat → Nat → Int32) (T kn : Nat) : (os A T kn).Pairwise (· < ·) := by
  unfold os
  exact List.Pairwise.filter _ List.pairwise_lt_range
theorem fi_lt {A : Nat → Nat → Int32} {T kn n m : Nat} (hm : m < (os A T kn).length) (h : n < m) : fi A T kn n < fi A T kn m := by
  rw [fi_get hm, fi_get (Nat.lt_trans h hm)]
  exact List.pairwise_iff_getElem.mp (os_pw A T kn) n m (Nat.lt_trans h hm) hm h
theorem fi_inj {A : Nat → Nat → Int32} {T kn n m : Nat} (hn : n < (os A T kn).length) (hm : m < (os A T kn).length) (h : fi A T kn n = fi A T kn m) : n = m := by
  rcases Nat.lt_trichotomy n m with q | q | q
  · have := fi_lt hm q; omega
  · exact q
  · have := fi_lt hn q; omega
theorem fi_sur {A : Nat → Nat → Int32} {T kn c : Nat} (hc : c < kn) (h : A (T + 3) c = 0) : ∃ n, n < (os A T kn).length ∧ fi A T kn n = c := by
  obtain ⟨n, hn, e⟩ := List.getElem_of_mem (os_mem.mpr ⟨hc, h⟩)
  exact ⟨n, hn, (fi_get hn).trans e⟩
theorem os_c {A A' : Nat → Nat → Int32} {T kn : Nat} (h : ∀ c, c < kn → A' (T + 3) c = A (T + 3) c) : os A' T kn = os A T kn := by
  unfold os
  apply List.filter_congr
  intro c hc
  rw [h c (List.mem_range.mp hc)]
theorem os_s (A : Nat → Nat → Int32) (T kn : Nat) : os A T (kn + 1) = os A T kn ++ (if A (T + 3) kn = 0 then [kn] else []) := by
  unfold os
  rw [List.range_succ, List.filter_append]
  by_cases h : A (T + 3) kn = 0
  · rw [if_pos h]; simp [h]
  · rw [if_neg h]; simp [h]
theorem os_le (A : Nat → Nat → Int32) (T kn : Nat) : (os A T kn).length ≤ kn := by
  have := List.length_filter_le (fun c => decide (A (T + 3) c = 0)) (List.range kn)
  rwa [List.length_range] at this
theorem os_map (A : Nat → Nat → Int32) (T kn : Nat) : (List.range' 0 (os A T kn).length).map (fi A T kn) = os A T kn := by
  apply List.ext_getElem
  · simp
  · intro i h1 h2
    rw [List.getElem_map, List.getElem_range']
    rw [fi_get (by simpa using h2)]
    simp
/-- a node's depth and values, as the reference has them -/
def dn (R : Nat → Nat → Int32) (n : Nat) : Nat := (R 338 n).toNatClampNeg
def wn (R : Nat → Nat → Int32) (n i : Nat) : Nat := (R 339 (6 * n + i)).toNatClampNeg
def TNs (A : Nat → Nat → Int32) (L : Nat → Nat → Int64) (R : Nat → Nat → Int32) (T B nv n c : Nat) : Prop := dn R n ≤ nv ∧ R 338 n = nI (dn R n) ∧ A (T + 2) c = nI (dn R n) ∧ (∀ i, i < dn R n → R 339 (6 * n + i) = nI (wn R n i) ∧ wn R n i < szo A B i ∧ szo A B i ≤ 6) ∧ (∀ i, dn R n ≤ i → i < 6 → R 339 (6 * n + i) = -9) ∧ L (T + 1) c = plc (R 341 n) (lN (e8 (wn R n) (dn R n))) ∧ R 340 n = nI (e7 (wn R n) (dn R n))
/-- free, held, done, taken -/
def stg (R : Nat → Nat → Int32) (n : Nat) : Int32 := if R 345 n = 0 then (if R 344 n = 0 then (if R 343 n = -9 then 0 else 1) else 2) else 3
def TNd (A R : Nat → Nat → Int32) (T : Nat) (sv : Prop) (n c : Nat) : Prop := A (T + 5) c = stg R n ∧ (R 344 n = 0 ∨ R 344 n = 1) ∧ (R 345 n = 0 ∨ R 345 n = 1) ∧ (R 345 n = 1 → R 344 n = 1) ∧ (sv → (R 343 n = -9 ∨ ∃ h, h < 5 ∧ R 343 n = nI h) ∧ (R 344 n = 1 → R 343 n ≠ -9 ∧ A (T + 6) c = R 343 n))
/-- reached: the node above it is taken -/
def TNr (A R : Nat → Nat → Int32) (T : Nat) (tk : Nat → Prop) (n c : Nat) : Prop := (R 342 n = -9 ∧ A (T + 8) c = 1) ∨ ∃ a, a < n ∧ R 342 n = nI a ∧ ((tk a ∧ A (T + 8) c = 1) ∨ (¬ tk a ∧ A (T + 8) c = 0))
/-- what is below it: fb n = some (f, k): the k nodes of the class from f on -/
def TNc (A R : Nat → Nat → Int32) (T kn nn : Nat) (fb : Nat → Option (Nat × Nat)) (n c : Nat) : Prop := (fb n = none ∧ A (T + 7) c = -1 ∧ R 349 n = 0 ∧ ∀ m, m < nn → R 342 m ≠ nI n) ∨ ∃ f k, fb n = some (f, k) ∧ A (T + 7) c = nI f ∧ k ≤ 6 ∧ f + k ≤ kn ∧ (∀ y, y < k → A (T + 3) (f + y) = R 347 (6 * n + y) ∧ A (T + 4) (f + y) = R 348 (6 * n + y)) ∧ R 349 n = sm (fun y => if A (T + 3) (f + y) = 0 then 1 else 0) k 0 0 ∧ ∀ m, m < nn → (R 342 m = nI n ↔ f ≤ fi A T kn m ∧ fi A T kn m < f + k)
/-- the trees; ex: the node that is being opened -/
def TT (I A : Nat → Nat → Int32) (L : Nat → Nat → Int64) (J R : Nat → Nat → Int32) (T B nv kn nn : Nat) (sv : Prop) (fb : Nat → Option (Nat × Nat)) (tk ex : Nat → Prop) : Prop := (os A T kn).length = nn ∧ I T 9 = nI kn ∧ J 318 29 = nI nn ∧ kn ≤ lT T ∧ nv ≤ 6 ∧ ∀ n, n < nn → TNs A L R T B nv n (fi A T kn n) ∧ (¬ ex n → TNd A R T sv n (fi A T kn n)) ∧ TNr A R T tk n (fi A T kn n) ∧ TNc A R T kn nn fb n (fi A T kn n)
section TR
variable {I A : Nat → Nat → Int32} {L : Nat → Nat → Int64} {J R : Nat → Nat → Int32} {T B nv kn nn : Nat} {sv : Prop} {fb : Nat → Option (Nat × Nat)} {tk ex : Nat → Prop}
theorem ns_6 {n c : Nat} (h : TNs A L R T B nv n c) : ∀ i, i < dn R n → wn R n i < 6 := fun i hi => by
  have := h.2.2.2.1 i hi; omega
theorem tt_nn (hT : TrAt T) (h : TT I A L J R T B nv kn nn sv fb tk ex) : nn ≤ kn ∧ nn ≤ 1711 := by
  have h1 := os_le A T kn
  have h2 := (tr_l hT).2.2.2.2.2.2.2.2.2.2.2
  have h3 := h.1
  have h4 := h.2.2.2.1
  omega
theorem tt_lt {n m : Nat} (h : TT I A L J R T B nv kn nn sv fb tk ex) (hn : n < nn) (hm : m < nn) : plt L T (fi A T kn n) (fi A T kn m) = qlt R n m := by
  have a := (h.2.2.2.2.2 n hn).1
  have b := (h.2.2.2.2.2 m hm).1
  unfold plt qlt
  rw [a.2.2.2.2.2.1, b.2.2.2.2.2.1, a.2.2.2.2.2.2, b.2.2.2.2.2.2]
  have e := e87 (ns_6 a) (ns_6 b)
  have l1 := e7_lt (ns_6 a)
  have l2 := e7_lt (ns_6 b)
  apply decide_eq_decide.mpr
  rw [plc_lt _ _ (e8_lt (ns_6 a)) (e8_lt (ns_6 b)), e.1, t_lt (by omega) (by omega)]
theorem tt_scan {P Q : Nat → Bool} (h : TT I A L J R T B nv kn nn sv fb tk ex) (hP : ∀ c, P c = true → A (T + 3) c = 0) (hPQ : ∀ n, n < nn → P (fi A T kn n) = Q n) : amin P (plt L T) (List.range' 0 kn) none = (amin Q (qlt R) (List.range' 0 nn) none).map (fi A T kn) := by
  rw [← List.range_eq_range', ← amin_f (Q := fun c => decide (A (T + 3) c = 0)) (fun c hc => decide_eq_true (hP c hc))]
  have e : (List.range kn).filter (fun c => decide (A (T + 3) c = 0)) = (List.range' 0 nn).map (fi A T kn) := by
    rw [← h.1]; exact (os_map A T kn).symm
  rw [e]
  have m := amin_m (P := P) (lt := plt L T) (φ := fi A T kn) (List.range' 0 nn) none
  refine (show _ = _ from m).trans ?_
  congr 1
  refine amin_c (fun n => n < nn) (fun n hn => hPQ n hn) (fun n m hn hm => tt_lt h hn hm) _ _ (fun n hn => ?_) (fun n hn => by cases hn)
  have := List.mem_range'_1.mp hn
  omega
/-- the next of the walk, on both sides -/
def nxw (R : Nat → Nat → Int32) (nn : Nat) : Option Nat := amin (qwk R) (qlt R) (List.range' 0 nn) none
def nxf (R : Nat → Nat → Int32) (nn : Nat) : Option Nat := amin (qfr R) (qlt R) (List.range' 0 nn) none
theorem tt_ab (h : TT I A L J R T B nv kn nn sv fb tk ex) (hT : TrAt T) : ∀ n, n < nn → R 342 n = -9 ∨ ∃ a, a < 2000 ∧ R 342 n = nI a := fun n hn => by
  have := (tt_nn hT h).2
  rcases (h.2.2.2.2.2 n hn).2.2.1 with ⟨q, _⟩ | ⟨a, ha, q, _⟩
  · exact Or.inl q
  · exact Or.inr ⟨a, by omega, q⟩
theorem st_3 {n : Nat} (h0 : R 345 n = 0 ∨ R 345 n = 1) : stg R n = 3 ↔ ¬ R 345 n = 0 := by
  unfold stg
  rcases h0 with q | q <;> rw [q]
  · simp only [if_true]
    constructor
    · intro h
      exfalso
      revert h
      split
      · split <;> decide
      · decide
    · intro h; exact absurd trivial h
  · simp only [z10, if_false, not_false_eq_true]
theorem tt_pw (h : TT I A L J R T B nv kn nn sv fb (fun a => ¬ R 345 a = 0) (fun _ => False)) (hT : TrAt T) {n : Nat} (hn : n < nn) : pwk A T (fi A T kn n) = qwk R n := by
  have hnn := (tt_nn hT h).2
  obtain ⟨a, b, c, d⟩ := h.2.2.2.2.2 n hn
  have b := b (fun q => q)
  have w := (fi_mem (A := A) (T := T) (kn := kn) (n := n) (by rw [h.1]; exact hn)).2
  unfold pwk qwk
  apply decide_eq_decide.mpr
  rw [b.1, st_3 b.2.2.1, Classical.not_not]
  constructor
  · rintro ⟨h1, _, h3⟩
    refine ⟨h3, ?_⟩
    rcases c with ⟨q, _⟩ | ⟨x, hx, q, ⟨r, _⟩ | ⟨_, r⟩⟩
    · exact Or.inl q
    · right; rw [q, t_cl (by omega)]; exact r
    · exact absurd r h1
  · rintro ⟨h1, h2⟩
    refine ⟨?_, w, h1⟩
    rcases c with ⟨_, q⟩ | ⟨x, hx, q, ⟨_, r⟩ | ⟨r, _⟩⟩
    · rw [q]; exact z10
    · rw [r]; exact z10
    · rcases h2 with h2 | h2
      · rw [q] at h2; exact absurd h2 (t_m9 (by omega))
      · rw [q, t_cl (by omega)] at h2; exact absurd h2 r
theorem tt_pf (h : TT I A L J R T B nv kn nn sv fb tk (fun _ => False)) (hs : sv) {n : Nat} (hn : n < nn) : pfr A T (fi A T kn n) = qfr R n := by
  obtain ⟨a, b, c, d⟩ := h.2.2.2.2.2 n hn
  have b := b (fun q => q)
  have w := (fi_mem (A := A) (T := T) (kn := kn) (n := n) (by rw [h.1]; exact hn)).2
  unfold pfr qfr
  apply decide_eq_decide.mpr
  rw [b.1]
  obtain ⟨s1, s2⟩ := b.2.2.2.2 hs
  unfold stg
  constructor
  · rintro ⟨_, q⟩
    revert q
    split
    · split
      · split
        · exact fun _ => by assumption
        · intro q; exact absurd q (by decide)
      · intro q; exact absurd q (by decide)
    · intro q; exact absurd q (by decide)
  · intro q
    refine ⟨w, ?_⟩
    have d0 : R 344 n = 0 := b.2.1.resolve_right (fun r => (s2 r).1 q)
    have t0 : R 345 n = 0 := b.2.2.1.resolve_right (fun r => by have := b.2.2.2.1 r; rw [d0] at this; exact absurd this z01)
    rw [t0, d0, q, if_pos rfl, if_pos rfl, if_pos rfl]
theorem t_nxw (h : TT I A L J R T B nv kn nn sv fb (fun a => ¬ R 345 a = 0) (fun _ => False)) (hT : TrAt T) : f_X5_nextOfWalk I A L T = some (enc (-1) ((nxw R nn).map (fi A T kn))) ∧ f_X7_nextOf J R = some (enc (-9) (nxw R nn)) := by
  have hnn := tt_nn hT h
  have hkn := h.2.2.2.1
  have hl := (tr_l hT).2.2.2.2.2.2.2.2.2.2.2
  constructor
  · unfold f_X5_nextOfWalk
    have ek : (I T 9).toNatClampNeg = kn := by rw [h.2.1]; exact t_cl (by omega)
    rw [gd_t ⟨hT, by rw [ek]; exact hkn, by rw [ek]; exact h.2.1⟩, ek]
    have e := nwk_e (A := A) (L := L) (T := T) kn 0 none (by omega) (fun j hj => by cases hj)
    rw [tt_scan h (fun c hc => (of_decide_eq_true hc).2.1) (fun n hn => tt_pw h hT hn)] at e
    exact congrArg some e
  · exact r_nextOf (by omega) h.2.2.1 (tt_ab h hT)
theorem t_nxf (h : TT I A L J R T B nv kn nn sv fb tk (fun _ => False)) (hs : sv) (hT : TrAt T) : f_X5_nextFree I A L T = some (enc (-1) ((nxf R nn).map (fi A T kn))) := by
  have hnn := tt_nn hT h
  have hkn := h.2.2.2.1
  have hl := (tr_l hT).2.2.2.2.2.2.2.2.2.2.2
  unfold f_X5_nextFree
  have ek : (I T 9).toNatClampNeg = kn := by rw [h.2.1]; exact t_cl (by omega)
  rw [gd_t ⟨hT, by rw [ek]; exact hkn, by rw [ek]; exact h.2.1⟩, ek]
  have e := nfr_e (A := A) (L := L) (T := T) kn 0 none (by omega) (fun j hj => by cases hj)
  rw [tt_scan h (fun c hc => (of_decide_eq_true hc).1) (fun n hn => tt_pf h hs hn)] at e
  exact congrArg some e
theorem nxw_o {n : Nat} (h : nxw R nn = some n) : n < nn ∧ R 345 n = 0 ∧ (R 342 n = -9 ∨ ¬ R 345 (R 342 n).toNatClampNeg = 0) := by
  rcases amin_o _ _ _ h with q | ⟨q1, q2⟩
  · cases q
  · have := List.mem_range'_1.mp q1
    have q3 := of_decide_eq_true q2
    exact ⟨by omega, q3.1, q3.2⟩
theorem nxf_o {n : Nat} (h : nxf R nn = some n) : n < nn ∧ R 343 n = -9 := by
  rcases amin_o _ _ _ h with q | ⟨q1, q2⟩
  · cases q
  · have := List.mem_range'_1.mp q1
    exact ⟨by omega, of_decide_eq_true q2⟩
end TR
