/-! THE FIRST MEMORY: both objects together; Rel 0 -/
def adx (ad m : Nat → Nat) : Nat → Nat := fun j => if j < 318 then ad j else m (j - 318)
theorem cx_rk : ∀ j, j < 318 → kd j < 8 → ∀ k, k < nf (kd j) → (rk (kd j) k = 1 → j + of (kd j) k < 318) ∧ (rk (kd j) k = 2 → of (kd j) k < 318) := by decide +kernel
theorem cx_rf : ∀ j, j < 318 → 13 ≤ kd j → ∀ i, i < ln j → rf j i < 318 := by decide +kernel
theorem cx_M : ∀ i, i < 60 → kd (318 + i) < 12 ∧ (kd (318 + i) < 8 → ∀ k, k < nf (kd (318 + i)) → rk (kd (318 + i)) k = 0 ∨ (rk (kd (318 + i)) k = 2 ∧ 318 ≤ of (kd (318 + i)) k)) := by decide +kernel
theorem G0_lt (j k : Nat) : G0 j k < 318 := by
  unfold G0
  split
  · omega
  · split
    · split <;> omega
    · omega
section CX
variable {K : Nat → ClassId} {ad m : Nat → Nat} {u v : Nat → Int32}
theorem cx_1 {j : Nat} (hj : j < 318) : cell K ad I0 G0 (A0 u v) L0 j = cell K (adx ad m) I0 G0 (A0 u v) L0 j := by
  have h : ∀ i, i < 318 → adx ad m i = ad i := fun i hi => by unfold adx; rw [if_pos hi]
  unfold cell
  by_cases h8 : kd j < 8
  · rw [if_pos h8, if_pos h8]
    refine congrArg (fun x => Sum.inr (kd j, x)) (List.map_congr_left fun k hk => ?_)
    have hk := List.mem_range.mp hk
    obtain ⟨a, b⟩ := cx_rk j hj h8 k hk
    unfold fd
    split
    · rfl
    · split
      · rename_i r; rw [h _ (a r)]
      · split
        · rename_i r; rw [h _ (b r)]
        · rw [h _ (G0_lt _ _)]
  · rw [if_neg h8, if_neg h8]
    split
    · rfl
    · split
      · rfl
      · refine congrArg (fun f => (Sum.inl (ck K (kd j), ln j, Sum.inr (Sum.inr (Sum.inr (Sum.inr f)))) : va_E)) (funext fun x => ?_)
        split
        · rename_i h12 q12 hx
          rw [h _ (cx_rf j hj (by omega) x hx)]
        · rfl
theorem cx_2 {i : Nat} (hi : i < 60) : cell K (fun j => m (j - 318)) I0 G0 (A0 (fun _ => 0) (fun _ => 0)) L0 (318 + i) = cell K (adx ad m) I0 G0 (A0 u v) L0 (318 + i) := by
  obtain ⟨a, b⟩ := cx_M i hi
  unfold cell
  by_cases h8 : kd (318 + i) < 8
  · rw [if_pos h8, if_pos h8]
    refine congrArg (fun x => Sum.inr (kd (318 + i), x)) (List.map_congr_left fun k hk => ?_)
    have hk := List.mem_range.mp hk
    unfold fd
    rcases b h8 k hk with r | ⟨r, r2⟩
    · rw [if_pos r, if_pos r]
    · rw [r]
      show Value.ref (m (of (kd (318 + i)) k - 318)) = Value.ref (adx ad m (of (kd (318 + i)) k))
      unfold adx
      rw [if_neg (by omega)]
  · rw [if_neg h8, if_neg h8, if_pos a, if_pos a]
    have e1 : A0 u v (318 + i) = fun _ => 0 := by unfold A0; rw [if_neg (by omega), if_neg (by omega)]
    have e2 : A0 (fun _ => 0) (fun _ => 0) (318 + i) = fun _ => 0 := by unfold A0; rw [if_neg (by omega), if_neg (by omega)]
    rw [e1, e2]
theorem vw_all : (([] ++ VX K ad u v) ++ VMR K m) = VW K (adx ad m) I0 G0 (A0 u v) L0 := by
  unfold VX VMR VW
  rw [List.nil_append, show NS = 318 + 60 from rfl, List.range_add, List.map_append, List.map_map]
  refine app2 (List.map_congr_left fun j hj => ?_) (List.map_congr_left fun i hi => ?_)
  · have hj := List.mem_range.mp hj
    rw [cx_1 (m := m) hj]
    show (ad j, _) = (adx ad m j, _)
    unfold adx
    rw [if_pos hj]
  · have hi := List.mem_range.mp hi
    rw [cx_2 (ad := ad) (u := u) (v := v) hi]
    show (m i, _) = (adx ad m (318 + i), _)
    have : adx ad m (318 + i) = m i := by unfold adx; rw [if_neg (by omega), show 318 + i - 318 = i by omega]
    rw [this]
theorem vw_ap {I : Nat → Nat → Int32} {G : Nat → Nat → Nat} {A : Nat → Nat → Int32} {L : Nat → Nat → Int64} {z : Nat} (hD : va_D (fun q : Nat => z ≤ q) (VW K ad I G A L)) : apart ad (fun _ => True) ∧ ∀ j, j < NS → z ≤ ad j :=
  ⟨⟨fun i j hi hj e => hD.1 i j _ _ (VW_at hi) (VW_at hj) e, fun _ _ => trivial⟩, fun j hj => hD.2 j _ (VW_at hj)⟩
end CX
theorem ty_1 {s : State} {args : Array Value} {ty : FieldType} (h : (Cond.arrayClass ty).before args s = true) : ∃ c, s.vm.findClass ("[" ++ ty.toString) = some c ∧ ArrOfT s c ty := by
  obtain ⟨cA, kA, comp, hfind, hk, hkind⟩ := Cond.arrayClass_spec h
  exact ⟨cA, hfind, fun n z => ⟨fun k h => (by cases h), kA, hk, comp, hkind⟩⟩
theorem ty_all {s : State} {args : Array Value} (h0 : (Cond.arrayClass .int).before args s = true) (h1 : (Cond.arrayClass .byte).before args s = true) (h2 : (Cond.arrayClass .short).before args s = true) (h3 : (Cond.arrayClass .boolean).before args s = true) (h4 : (Cond.arrayClass .long).before args s = true) (h5 : (Cond.arrayOver (.object RX1)).before args s = true) (h6 : (Cond.arrayOver (.object RX2)).before args s = true) (h7 : (Cond.arrayOver (.array .int)).before args s = true) : ∃ K : Nat → ClassId, ∀ (k : Nat) (q : ClassId × FieldType), (tyA K)[k]? = some q → ArrOfT s q.1 q.2 ∧ va_RA s q.1 q.2 := by
  obtain ⟨c0, a0, b0⟩ := ty_1 h0
  obtain ⟨c1, a1, b1⟩ := ty_1 h1
  obtain ⟨c2, a2, b2⟩ := ty_1 h2
  obtain ⟨c3, a3, b3⟩ := ty_1 h3
  obtain ⟨c4, a4, b4⟩ := ty_1 h4
  obtain ⟨d5, c5, k5, f5, _, g5, i5, j5⟩ := Cond.arrayOver_spec h5
  obtain ⟨d6, c6, k6, f6, _, g6, i6, j6⟩ := Cond.arrayOver_spec h6
  obtain ⟨d7, c7, k7, f7, _, g7, i7, j7⟩ := zg_spec h7
  refine ⟨fun k => [c0, c1, c2, c3, c4, c5, c6, c7].getD k c0, fun k q hq => ?_⟩
  match k, hq with
  | 0, hq => cases hq; exact ⟨b0, a0⟩
  | 1, hq => cases hq; exact ⟨b1, a1⟩
  | 2, hq => cases hq; exact ⟨b2, a2⟩
  | 3, hq => cases hq; exact ⟨b3, a3⟩
  | 4, hq => cases hq; exact ⟨b4, a4⟩
  | 5, hq => cases hq; exact ⟨fun N z => ⟨(fun k h => by cases h), k5, g5, d5, i5⟩, k5, d5, g5, i5, f5, j5⟩
  | 6, hq => cases hq; exact ⟨fun N z => ⟨(fun k h => by cases h), k6, g6, d6, i6⟩, k6, d6, g6, i6, f6, j6⟩
  | 7, hq => cases hq; exact ⟨fun N z => ⟨(fun k h => by cases h), k7, g7, d7, i7⟩, j7⟩
  | k + 8, hq => simp [tyA] at hq
theorem Rel_up {n : Nat} {I A : Nat → Nat → Int32} {G : Nat → Nat → Nat} {L : Nat → Nat → Int64} {J R : Nat → Nat → Int32} (h : Rel n I G A L J R) : Rel (n + 1) I G A L J R := Rel_fr h (Nat.le_succ n) (fun _ _ _ => rfl) (fun _ _ _ => rfl) (fun _ _ _ => rfl) (fun _ _ _ _ => rfl) (fun _ _ _ _ => rfl) (fun _ _ _ _ => rfl) (Rel_9 h)
section R0
variable {u v : Nat → Int32}
theorem A0_z {j x : Nat} (h1 : j ≠ 18) (h2 : j ≠ 19) : A0 u v j x = 0 := by unfold A0; rw [if_neg h1, if_neg h2]
theorem I0_z {j k : Nat} (hj : 58 ≤ j) (h3 : j < 318) : I0 j k = 0 := by
  unfold I0
  rw [if_neg (by omega), if_neg (by omega), if_neg (by omega), if_neg (by omega), if_neg (by omega), if_neg (by omega), if_neg (by omega)]
  split
  · rw [if_neg (by omega), if_neg (by omega), if_neg (by omega), if_neg (by omega)]
  · rw [if_neg (by omega)]
theorem nP0 {q : Nat} (hj : 58 ≤ q) (h3 : q < 318) : nP I0 q = 0 := by unfold nP; rw [I0_z hj h3]; decide
theorem TPr_0 {p : Nat} (hp : p < 5) : TPr I0 (A0 u v) (A0 u v) p (58 + 52 * p) 0 0 := by
  refine ⟨hp, rfl, ⟨by omega, by omega, I0_z (by omega) (by omega), I0_z (by omega) (by omega), fun x hx => absurd hx (by omega), fun r hr => ?_⟩, A0_z (by omega) (by omega), A0_z (by omega) (by omega), fun m hm => by rw [A0_z (by omega) (by omega), A0_z (by omega) (by omega)], fun x k hx hk => ?_, fun r hr => ?_⟩
  · have e := nP0 (q := 58 + 52 * p + 12 + 5 * r) (by omega) (by omega)
    rw [e]
    exact ⟨by omega, I0_z (by omega) (by omega), fun i hi => absurd hi (by omega)⟩
  · rw [A0_z (by omega) (by omega), A0_z (by omega) (by omega)]
    exact ⟨rfl, by decide, by decide⟩
  · have e := nP0 (q := 58 + 52 * p + 12 + 5 * r) (by omega) (by omega)
    unfold TRl
    rw [e]
    refine ⟨⟨?_, ?_, ?_, fun k hk => ⟨?_, ?_⟩⟩, fun k hk => absurd hk (by omega), fun k hk => absurd hk (by omega), fun x hx => Or.inl ⟨A0_z (by omega) (by omega), fun k hk => absurd hk (by omega)⟩, 0, by omega, I0_z (by omega) (by omega)⟩
    · rw [A0_z (by omega) (by omega), I0_z (by omega) (by omega)]
    · rw [A0_z (by omega) (by omega), I0_z (by omega) (by omega)]
    · rw [A0_z (by omega) (by omega), I0_z (by omega) (by omega)]
    · rw [A0_z (by omega) (by omega), A0_z (by omega) (by omega)]
    · rw [A0_z (by omega) (by omega), A0_z (by omega) (by omega)]
theorem Rel_0 (hv : ∀ j, j < 6 → v j = -9) : Rel 0 I0 G0 (A0 u v) L0 I0 (A0 u v) := by
  refine ⟨0, 1, 0, ⟨by omega, rfl, rfl, fun p hp => ⟨⟨0, 0, TPr_0 hp⟩, fun x hx => ?_, fun r hr => ?_⟩⟩, ⟨⟨rfl, rfl, by omega, by omega, rfl, rfl, by omega, fun i hi => absurd hi (by omega)⟩, fun h hh => ⟨⟨?_, 0, by omega, ?_⟩, ?_, ?_, ?_⟩⟩, fun p hp => Or.inl ⟨I0_z (by omega) (by omega), A0_z (by omega) (by omega), A0_z (by omega) (by omega)⟩, ⟨34, 58, 0, 0, rfl, Or.inr rfl, rfl, ⟨0, by omega, rfl⟩, rfl, rfl, by omega, I0_z (by omega) (by omega), by omega, fun i hi => absurd hi (by omega)⟩, ⟨0, rfl, by omega, fun p hp => ⟨0, 0, I0_z (by omega) (by omega), A0_z (by omega) (by omega), by omega, by omega⟩⟩, Or.inl ⟨rfl, rfl⟩, Or.inl ⟨rfl, fun i hi => hv i hi⟩, ⟨rfl, rfl⟩, ⟨rfl, 22, rfl, Or.inl ⟨rfl, rfl⟩, Or.inl ⟨rfl, rfl⟩⟩, fun j x h => Or.inl (A0_z (by omega) (by omega))⟩
  · rw [A0_z (by omega) (by omega), A0_z (by omega) (by omega)]
  · rw [nP0 (by omega) (by omega)]
    unfold npc
    simp only [A0_z (u := u) (v := v) (j := 58 + 52 * p + 12 + 5 * r + 3) (by omega) (by omega), if_pos]
  · rw [A0_z (by omega) (by omega), A0_z (by omega) (by omega)]
  · exact A0_z (by omega) (by omega)
  · rw [A0_z (by omega) (by omega), A0_z (by omega) (by omega)]
  · rw [A0_z (by omega) (by omega), A0_z (by omega) (by omega)]
  · rw [A0_z (by omega) (by omega), A0_z (by omega) (by omega)]
end R0
