/-! THE TIE: second, whole -/
section SN
variable {I A : Nat → Nat → Int32} {G : Nat → Nat → Nat} {L : Nat → Nat → Int64} {J R : Nat → Nat → Int32} {n : Nat}
noncomputable def kA (G11 : Nat → Nat → Nat) : (Nat → Nat → Int32) → (Nat → Nat → Int32) → (Nat → Nat → Int64) → Option (Int32 × (Nat → Nat → Int32) × (Nat → Nat → Nat) × (Nat → Nat → Int32) × (Nat → Nat → Int64)) := fun I22 A23 L24 => some (((-1000000) : Int32), I22, G11, A23, L24)
noncomputable def kB (G11 : Nat → Nat → Nat) : Int32 → (Nat → Nat → Int32) → (Nat → Nat → Int32) → (Nat → Nat → Int64) → Option (Int32 × (Nat → Nat → Int32) × (Nat → Nat → Nat) × (Nat → Nat → Int32) × (Nat → Nat → Int64)) := fun v26 I27 A28 L29 => Option.bind (f_X5_copyValues A28 L29 46 v26 19 0) fun A30 => Option.bind (f_X5_boundOf L29 46 v26) fun r32 => some (r32, I27, G11, A30, L29)
noncomputable def kC (G11 : Nat → Nat → Nat) : (Nat → Nat → Int32) → (Nat → Nat → Int32) → (Nat → Nat → Int64) → Option (Int32 × (Nat → Nat → Int32) × (Nat → Nat → Nat) × (Nat → Nat → Int32) × (Nat → Nat → Int64)) := fun I35 A36 L37 => Option.bind (f_X5_nextOfWalk I35 A36 L37 46) fun r38 => if r38 = (-1) then (some (((-1000000) : Int32), I35, G11, A36, L37)) else (some (((-1000001) : Int32), I35, G11, A36, L37))
noncomputable def kD (a1 : Int32) : Int32 → Int32 → (Nat → Nat → Int32) → (Nat → Nat → Int32) → Option (Int32 × (Nat → Nat → Int32) × (Nat → Nat → Int32)) := fun v23 v24 I25 A26 => bd (fun (z28 : Int32) => bd (up2 I25 318 61 z28) fun I30 => bd (fun (z33 : Int32) => bd (fun (A39 : Nat → Nat → Int32) => Option.bind (f_X7_aside I30 A39) fun (I40, A41) => some (z33, I40, A41)) fun k38 => f_X7_second_L188 z33 v23 I30 k38 FU 0 A26) fun j34 => if v23 = (-9) then (if v24 = (-9) then (j34 (-1000000)) else (j34 (-1000001))) else (gd (inr v23 2000) <| j34 (A26 341 v23.toNatClampNeg))) fun j29 => if v23 = (-9) then (j29 (-9)) else (gd (inr a1 5) <| j29 (A26 319 a1.toNatClampNeg))
/-- no node found -/
theorem kD_n {a1 x : Int32} (h9 : Q9 R) : ∃ R', kD a1 (-9) x J R = some ((if x = -9 then -1000000 else -1000001), up2 (up2 (up2 (up2 J 318 61 (-9)) 318 29 (R 365 0)) 318 30 (R 365 1)) 318 31 (R 365 2), R') ∧ (∀ q m, q < 12 → m < ln (338 + q) → R' (338 + q) m = R (366 + q) m) ∧ ∀ j m, j ≠ 365 → (¬ (338 ≤ j ∧ j < 350) ∧ ¬ (366 ≤ j ∧ j < 378)) ∨ ln j ≤ m → R' j m = R j m := by
  obtain ⟨R', e, _, _, _, a, b⟩ := t_aside (J := up2 J 318 61 (-9)) h9
  obtain ⟨fu, ef⟩ : ∃ z, FU = z + 1 := ⟨FU - 1, by have := FU_le; omega⟩
  refine ⟨R', ?_, fun q m h1 h2 => (a q m h1 h2).1, b⟩
  unfold kD
  simp only [bd, if_true]
  rw [ef]
  simp only [f_X7_second_L188, if_pos (show (0 : Int32) < 6 by decide), if_true, e, Option.bind_some]
  split <;> rfl
/-- a node found -/
theorem kD_f {x : Int32} {p n0 : Nat} (h9 : Q9 R) (hp : p < 5) (hn : n0 < 2000) : ∃ R', kD (nI p) (nI n0) x J R = some (R 341 n0, up2 (up2 (up2 (up2 J 318 61 (R 319 p)) 318 29 (R 365 0)) 318 30 (R 365 1)) 318 31 (R 365 2), R') ∧ (∀ m, m < 6 → R' 363 m = R 339 (6 * n0 + m)) ∧ (∀ q m, q < 12 → m < ln (338 + q) → R' (338 + q) m = R (366 + q) m) ∧ ∀ j m, j ≠ 365 → j ≠ 363 → (¬ (338 ≤ j ∧ j < 350) ∧ ¬ (366 ≤ j ∧ j < 378)) ∨ ln j ≤ m → R' j m = R j m := by
  have m9 : ¬ nI n0 = -9 := t_m9 (by omega)
  obtain ⟨R1, e1, e2, e3⟩ := r_L188 (z33 := R 341 n0) (I30 := up2 J 318 61 (R 319 p)) (R0 := R) (k38 := fun A39 => Option.bind (f_X7_aside (up2 J 318 61 (R 319 p)) A39) fun (I40, A41) => some (R 341 n0, I40, A41)) hn 6 0 FU R (by omega) (t_fu _ (by omega)) (fun m hm => by omega) (fun _ _ _ => rfl)
  have h91 : Q9 R1 := fun j x q => by rw [e3 _ _ (by omega)]; exact h9 j x q
  obtain ⟨R', e, _, _, _, a, b⟩ := t_aside (J := up2 J 318 61 (R 319 p)) h91
  refine ⟨R', ?_, fun m hm => by rw [b _ _ (by decide) (Or.inl (by omega))]; exact e2 m hm, fun q m h1 h2 => by rw [(a q m h1 h2).1, e3 _ _ (by omega)], fun j m h1 h2 h3 => by rw [b j m h1 h3, e3 j m h2]⟩
  unfold kD
  simp (disch := omega) only [bd, if_neg m9, gd_in, t_cl]
  refine Eq.trans e1 ?_
  rw [e, Option.bind_some, e3 365 0 (by decide), e3 365 1 (by decide), e3 365 2 (by decide)]
end SN
