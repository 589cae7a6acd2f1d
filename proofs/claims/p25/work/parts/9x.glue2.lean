/-! THE TIE: both sides in one memory, the late calls (laid by gen93.py) -/
section GM
variable {I A : Nat → Nat → Int32} {G : Nat → Nat → Nat} {L : Nat → Nat → Int64} {n : Nat}
theorem g_second (a1 a2 : Int32) (h : Rel n I G A L I A) : ∃ r I1 G1 A1 L1 J2 R2, f_X6_second I G A L a1 a2 = some (r, I1, G1, A1, L1) ∧ f_X7_second I1 A1 a1 a2 = some (r, J2, R2) ∧ Rel (n + 1) J2 G1 R2 L1 J2 R2 := by
  obtain ⟨r, I1, G1, A1, L1, _, _, e1, _⟩ := k_second a1 a2 h 
  have f1 := fr_X6_second I G A L a1 a2 r I1 G1 A1 L1 e1
  obtain ⟨r2, I1b, G1b, A1b, L1b, J2, R2, d1, d2, d3⟩ := k_second a1 a2 (Rel_ref h (f1.1) (f1.2.2.1)) 
  rw [e1] at d1
  cases d1
  have f2 := fr_X7_second I1 A1 a1 a2 r J2 R2 d2
  exact ⟨r, I1, G1, A1, L1, J2, R2, e1, d2, Rel_cls d3 (f2.1) (f2.2)⟩
theorem g_same (a1 a2 : Int32) (h : Rel n I G A L I A) : ∃ r I1 G1 A1 L1 J2, f_X6_same I G A L a1 a2 = some (r, I1, G1, A1, L1) ∧ f_X7_same I1 a1 a2 = some (r, J2) ∧ Rel (n + 1) J2 G1 A1 L1 J2 A1 := by
  obtain ⟨r, I1, G1, A1, L1, _, e1, _⟩ := k_same a1 a2 h 
  have f1 := fr_X6_same I G A L a1 a2 r I1 G1 A1 L1 e1
  obtain ⟨r2, I1b, G1b, A1b, L1b, J2, d1, d2, d3⟩ := k_same a1 a2 (Rel_ref h (f1.1) (f1.2.2.1)) 
  rw [e1] at d1
  cases d1
  have f2 := fr_X7_same I1 a1 a2 r J2 d2
  exact ⟨r, I1, G1, A1, L1, J2, e1, d2, Rel_cls d3 (f2) (Fc_rf)⟩
end GM
