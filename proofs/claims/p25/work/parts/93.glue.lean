/-! THE TIE: both sides in one memory (laid by gen93.py) -/
section GL
variable {I A : Nat → Nat → Int32} {G : Nat → Nat → Nat} {L : Nat → Nat → Int64} {J R I' A' J' R' : Nat → Nat → Int32} {n : Nat}
theorem Rel_9 (h : Rel n I G A L J R) : Q9 R := by
  obtain ⟨_, _, _, _, _, _, _, _, _, _, _, _, q9⟩ := h
  exact q9
theorem Rel_ref (h : Rel n I G A L J R) (hJ : Fc pC J J') (hR : Fc pC R R') : Rel n I G A L J' R' :=
  Rel_fr h (Nat.le_refl n) (fun _ _ _ => rfl) (fun _ _ _ => rfl) (fun _ _ _ => rfl) (fun _ _ _ _ => rfl) (fun k _ _ _ => by rw [hJ 318 (show 318 ≤ 318 by omega)]) (fun j m h1 _ => by rw [hR j (show 318 ≤ j by omega)]) (fun j x q => by rw [hR j (show 318 ≤ j by omega)]; exact Rel_9 h j x q)
theorem Rel_cls (h : Rel n I G A L J R) (hI : Fc pR I I') (hA : Fc pR A A') : Rel n I' G A' L J R :=
  Rel_fr h (Nat.le_refl n) (fun j k q => by rw [hI j (show j < 318 by omega)]) (fun _ _ _ => rfl) (fun j m q => by rw [hA j (show j < 318 by omega)]) (fun _ _ _ _ => rfl) (fun _ _ _ _ => rfl) (fun _ _ _ _ => rfl) (Rel_9 h)
theorem g_problem (h : Rel n I G A L I A) : ∃ r I1 J2, f_X6_problem I = some (r, I1) ∧ f_X7_problem I1 = some (r, J2) ∧ Rel (n + 1) J2 G A L J2 A := by
  obtain ⟨r, I1, _, e1, _⟩ := k_problem  h 
  have f1 := fr_X6_problem I r I1 e1
  obtain ⟨r2, I1b, J2, d1, d2, d3⟩ := k_problem  (Rel_ref h (f1) (Fc_rf)) 
  rw [e1] at d1
  cases d1
  have f2 := fr_X7_problem I1 r J2 d2
  exact ⟨r, I1, J2, e1, d2, Rel_cls d3 (f2) (Fc_rf)⟩
theorem g_limit (a1 : Int32) (h : Rel n I G A L I A) : ∃ r I1 J2, f_X6_limit I a1 = some (r, I1) ∧ f_X7_limit I1 a1 = some (r, J2) ∧ Rel (n + 1) J2 G A L J2 A := by
  obtain ⟨r, I1, _, e1, _⟩ := k_limit a1 h 
  have f1 := fr_X6_limit I a1 r I1 e1
  obtain ⟨r2, I1b, J2, d1, d2, d3⟩ := k_limit a1 (Rel_ref h (f1) (Fc_rf)) 
  rw [e1] at d1
  cases d1
  have f2 := fr_X7_limit I1 a1 r J2 d2
  exact ⟨r, I1, J2, e1, d2, Rel_cls d3 (f2) (Fc_rf)⟩
theorem g_giveUp (h : Rel n I G A L I A) : ∃ r I1 J2, f_X6_giveUp I = some (r, I1) ∧ f_X7_giveUp I1 = some (r, J2) ∧ Rel (n + 1) J2 G A L J2 A := by
  obtain ⟨r, I1, _, e1, _⟩ := k_giveUp  h 
  have f1 := fr_X6_giveUp I r I1 e1
  obtain ⟨r2, I1b, J2, d1, d2, d3⟩ := k_giveUp  (Rel_ref h (f1) (Fc_rf)) 
  rw [e1] at d1
  cases d1
  have f2 := fr_X7_giveUp I1 r J2 d2
  exact ⟨r, I1, J2, e1, d2, Rel_cls d3 (f2) (Fc_rf)⟩
theorem g_status (h : Rel n I G A L I A) : ∃ r J2, f_X6_status I = some r ∧ f_X7_status I = some (r, J2) ∧ Rel (n + 1) J2 G A L J2 A := by
  obtain ⟨r, _, e1, _⟩ := k_status  h 
  obtain ⟨r2, J2, d1, d2, d3⟩ := k_status  h 
  rw [e1] at d1
  cases d1
  have f2 := fr_X7_status I r J2 d2
  exact ⟨r, J2, e1, d2, Rel_cls d3 (f2) (Fc_rf)⟩
theorem g_plain (h : Rel n I G A L I A) : ∃ r I1 J2, f_X6_plain I = some (r, I1) ∧ f_X7_plain I1 = some (r, J2) ∧ Rel (n + 1) J2 G A L J2 A := by
  obtain ⟨r, I1, _, e1, _⟩ := k_plain  h 
  have f1 := fr_X6_plain I r I1 e1
  obtain ⟨r2, I1b, J2, d1, d2, d3⟩ := k_plain  (Rel_ref h (f1) (Fc_rf)) 
  rw [e1] at d1
  cases d1
  have f2 := fr_X7_plain I1 r J2 d2
  exact ⟨r, I1, J2, e1, d2, Rel_cls d3 (f2) (Fc_rf)⟩
theorem g_turn (a1 : Int32) (h : Rel n I G A L I A) : ∃ r I1 A1 J2 R2, f_X6_turn I A a1 = some (r, I1, A1) ∧ f_X7_turn I1 A1 a1 = some (r, J2, R2) ∧ Rel (n + 1) J2 G R2 L J2 R2 := by
  obtain ⟨r, I1, A1, _, _, e1, _⟩ := k_turn a1 h 
  have f1 := fr_X6_turn I A a1 r I1 A1 e1
  obtain ⟨r2, I1b, A1b, J2, R2, d1, d2, d3⟩ := k_turn a1 (Rel_ref h (f1.1) (f1.2)) 
  rw [e1] at d1
  cases d1
  have f2 := fr_X7_turn I1 A1 a1 r J2 R2 d2
  exact ⟨r, I1, A1, J2, R2, e1, d2, Rel_cls d3 (f2.1) (f2.2)⟩
theorem g_fail (a1 a2 : Int32) (h : Rel n I G A L I A) : ∃ r A1 J2 R2, f_X6_fail I A a1 a2 = some (r, A1) ∧ f_X7_fail I A1 a1 a2 = some (r, J2, R2) ∧ Rel (n + 1) J2 G R2 L J2 R2 := by
  obtain ⟨r, A1, _, _, e1, _⟩ := k_fail a1 a2 h 
  have f1 := fr_X6_fail I A a1 a2 r A1 e1
  obtain ⟨r2, A1b, J2, R2, d1, d2, d3⟩ := k_fail a1 a2 (Rel_ref h (Fc_rf) (f1)) 
  rw [e1] at d1
  cases d1
  have f2 := fr_X7_fail I A1 a1 a2 r J2 R2 d2
  exact ⟨r, A1, J2, R2, e1, d2, Rel_cls d3 (f2.1) (f2.2)⟩
theorem g_helpers (a1 : Int32) (h : Rel n I G A L I A) : ∃ r I1 A1 J2 R2, f_X6_helpers I A a1 = some (r, I1, A1) ∧ f_X7_helpers I1 A1 a1 = some (r, J2, R2) ∧ Rel (n + 1) J2 G R2 L J2 R2 := by
  obtain ⟨r, I1, A1, _, _, e1, _⟩ := k_helpers a1 h 
  have f1 := fr_X6_helpers I A a1 r I1 A1 e1
  obtain ⟨r2, I1b, A1b, J2, R2, d1, d2, d3⟩ := k_helpers a1 (Rel_ref h (f1.1) (f1.2)) 
  rw [e1] at d1
  cases d1
  have f2 := fr_X7_helpers I1 A1 a1 r J2 R2 d2
  exact ⟨r, I1, A1, J2, R2, e1, d2, Rel_cls d3 (f2.1) (f2.2)⟩
theorem g_helper (a1 a2 : Int32) (h : Rel n I G A L I A) : ∃ r J2, f_X6_helper A a1 a2 = some r ∧ f_X7_helper I A a1 a2 = some (r, J2) ∧ Rel (n + 1) J2 G A L J2 A := by
  obtain ⟨r, _, e1, _⟩ := k_helper a1 a2 h 
  obtain ⟨r2, J2, d1, d2, d3⟩ := k_helper a1 a2 h 
  rw [e1] at d1
  cases d1
  have f2 := fr_X7_helper I A a1 a2 r J2 d2
  exact ⟨r, J2, e1, d2, Rel_cls d3 (f2) (Fc_rf)⟩
theorem g_row (a1 : Int32) (h : Rel n I G A L I A) : ∃ r J2, f_X6_row A a1 = some r ∧ f_X7_row I A a1 = some (r, J2) ∧ Rel (n + 1) J2 G A L J2 A := by
  obtain ⟨r, _, e1, _⟩ := k_row a1 h 
  obtain ⟨r2, J2, d1, d2, d3⟩ := k_row a1 h 
  rw [e1] at d1
  cases d1
  have f2 := fr_X7_row I A a1 r J2 d2
  exact ⟨r, J2, e1, d2, Rel_cls d3 (f2) (Fc_rf)⟩
theorem g_told (a1 a2 : Int32) (h : Rel n I G A L I A) : ∃ r J2, f_X6_told I A a1 a2 = some r ∧ f_X7_told I A a1 a2 = some (r, J2) ∧ Rel (n + 1) J2 G A L J2 A := by
  obtain ⟨r, _, e1, _⟩ := k_told a1 a2 h 
  obtain ⟨r2, J2, d1, d2, d3⟩ := k_told a1 a2 h 
  rw [e1] at d1
  cases d1
  have f2 := fr_X7_told I A a1 a2 r J2 d2
  exact ⟨r, J2, e1, d2, Rel_cls d3 (f2) (Fc_rf)⟩
theorem g_answer (a1 a2 : Int32) (h : Rel n I G A L I A) : ∃ r J2, f_X6_answer I A a1 a2 = some r ∧ f_X7_answer I A a1 a2 = some (r, J2) ∧ Rel (n + 1) J2 G A L J2 A := by
  obtain ⟨r, _, e1, _⟩ := k_answer a1 a2 h 
  obtain ⟨r2, J2, d1, d2, d3⟩ := k_answer a1 a2 h 
  rw [e1] at d1
  cases d1
  have f2 := fr_X7_answer I A a1 a2 r J2 d2
  exact ⟨r, J2, e1, d2, Rel_cls d3 (f2) (Fc_rf)⟩
theorem g_costs (a1 a2 a3 : Int32) (h : Rel n I G A L I A) : ∃ r I1 J2, f_X6_costs I A a1 a2 a3 = some (r, I1) ∧ f_X7_costs I1 A a1 a2 a3 = some (r, J2) ∧ Rel (n + 1) J2 G A L J2 A := by
  obtain ⟨r, I1, _, e1, _⟩ := k_costs a1 a2 a3 h 
  have f1 := fr_X6_costs I A a1 a2 a3 r I1 e1
  obtain ⟨r2, I1b, J2, d1, d2, d3⟩ := k_costs a1 a2 a3 (Rel_ref h (f1) (Fc_rf)) 
  rw [e1] at d1
  cases d1
  have f2 := fr_X7_costs I1 A a1 a2 a3 r J2 d2
  exact ⟨r, I1, J2, e1, d2, Rel_cls d3 (f2) (Fc_rf)⟩
theorem g_count (a1 : Int32) (h : Rel n I G A L I A) : ∃ r r' J2, f_X6_count I G a1 = some r ∧ f_X7_count I a1 = some (r', J2) ∧ (a1 ≠ 5 → r = r') ∧ Rel (n + 1) J2 G A L J2 A := by
  obtain ⟨r, r', _, e1, _⟩ := k_count a1 h 
  obtain ⟨r2, r'2, J2, d1, d2, x0, d3⟩ := k_count a1 h 
  rw [e1] at d1
  cases d1
  have f2 := fr_X7_count I a1 r'2 J2 d2
  exact ⟨r, r'2, J2, e1, d2, x0, Rel_cls d3 (f2) (Fc_rf)⟩
theorem g_about (a1 a2 a3 : Int32) (h : Rel n I G A L I A) : ∃ r I1 J2, f_X6_about I A a1 a2 a3 = some (r, I1) ∧ f_X7_about I1 A a1 a2 a3 = some (r, J2) ∧ Rel (n + 1) J2 G A L J2 A := by
  obtain ⟨r, I1, _, e1, _⟩ := k_about a1 a2 a3 h 
  have f1 := fr_X6_about I A a1 a2 a3 r I1 e1
  obtain ⟨r2, I1b, J2, d1, d2, d3⟩ := k_about a1 a2 a3 (Rel_ref h (f1) (Fc_rf)) 
  rw [e1] at d1
  cases d1
  have f2 := fr_X7_about I1 A a1 a2 a3 r J2 d2
  exact ⟨r, I1, J2, e1, d2, Rel_cls d3 (f2) (Fc_rf)⟩
theorem g_ask (a1 : Int32) (h : Rel n I G A L I A) (hn : n < 1073741824) : ∃ r I1 A1 J2, f_X6_ask I A a1 = some (r, I1, A1) ∧ f_X7_ask I1 A1 a1 = some (r, J2) ∧ Rel (n + 1) J2 G A1 L J2 A1 := by
  obtain ⟨r, I1, A1, _, e1, _⟩ := k_ask a1 h hn
  have f1 := fr_X6_ask I A a1 r I1 A1 e1
  obtain ⟨r2, I1b, A1b, J2, d1, d2, d3⟩ := k_ask a1 (Rel_ref h (f1.1) (f1.2)) hn
  rw [e1] at d1
  cases d1
  have f2 := fr_X7_ask I1 A1 a1 r J2 d2
  exact ⟨r, I1, A1, J2, e1, d2, Rel_cls d3 (f2) (Fc_rf)⟩
theorem g_with (a1 : Int32) (h : Rel n I G A L I A) : ∃ r I1 A1 J2 R2, f_X6_with I A a1 = some (r, I1, A1) ∧ f_X7_with I1 A1 a1 = some (r, J2, R2) ∧ Rel (n + 1) J2 G R2 L J2 R2 := by
  obtain ⟨r, I1, A1, _, _, e1, _⟩ := k_with a1 h 
  have f1 := fr_X6_with I A a1 r I1 A1 e1
  obtain ⟨r2, I1b, A1b, J2, R2, d1, d2, d3⟩ := k_with a1 (Rel_ref h (f1.1) (f1.2)) 
  rw [e1] at d1
  cases d1
  have f2 := fr_X7_with I1 A1 a1 r J2 R2 d2
  exact ⟨r, I1, A1, J2, R2, e1, d2, Rel_cls d3 (f2.1) (f2.2)⟩
theorem g_walked (a1 a2 : Int32) (h : Rel n I G A L I A) : ∃ r J2, f_X6_walked I G A L a1 a2 = some r ∧ f_X7_walked I A a1 a2 = some (r, J2) ∧ Rel (n + 1) J2 G A L J2 A := by
  obtain ⟨r, _, e1, _⟩ := k_walked a1 a2 h 
  obtain ⟨r2, J2, d1, d2, d3⟩ := k_walked a1 a2 h 
  rw [e1] at d1
  cases d1
  have f2 := fr_X7_walked I A a1 a2 r J2 d2
  exact ⟨r, J2, e1, d2, Rel_cls d3 (f2) (Fc_rf)⟩
theorem g_closed (a1 a2 a3 : Int32) (h : Rel n I G A L I A) : ∃ r J2, f_X6_closed I G A a1 a2 a3 = some r ∧ f_X7_closed I A a1 a2 a3 = some (r, J2) ∧ Rel (n + 1) J2 G A L J2 A := by
  obtain ⟨r, _, e1, _⟩ := k_closed a1 a2 a3 h 
  obtain ⟨r2, J2, d1, d2, d3⟩ := k_closed a1 a2 a3 h 
  rw [e1] at d1
  cases d1
  have f2 := fr_X7_closed I A a1 a2 a3 r J2 d2
  exact ⟨r, J2, e1, d2, Rel_cls d3 (f2) (Fc_rf)⟩
theorem g_number (a1 a2 a3 : Int32) (h : Rel n I G A L I A) (hn : n < 1073741000) : ∃ r I1 J2 R2, f_X6_number I a1 a2 a3 = some (r, I1) ∧ f_X7_number I1 A a1 a2 a3 = some (r, J2, R2) ∧ Rel (n + 1) J2 G R2 L J2 R2 := by
  obtain ⟨r, I1, _, _, e1, _⟩ := k_number a1 a2 a3 h hn
  have f1 := fr_X6_number I a1 a2 a3 r I1 e1
  obtain ⟨r2, I1b, J2, R2, d1, d2, d3⟩ := k_number a1 a2 a3 (Rel_ref h (f1) (Fc_rf)) hn
  rw [e1] at d1
  cases d1
  have f2 := fr_X7_number I1 A a1 a2 a3 r J2 R2 d2
  exact ⟨r, I1, J2, R2, e1, d2, Rel_cls d3 (f2.1) (f2.2)⟩
theorem g_rule (a1 a2 a3 : Int32) (h : Rel n I G A L I A) (hn : n < 1073741000) : ∃ r I1 J2 R2, f_X6_rule I a1 a2 a3 = some (r, I1) ∧ f_X7_rule I1 A a1 a2 a3 = some (r, J2, R2) ∧ Rel (n + 1) J2 G R2 L J2 R2 := by
  obtain ⟨r, I1, _, _, e1, _⟩ := k_rule a1 a2 a3 h hn
  have f1 := fr_X6_rule I a1 a2 a3 r I1 e1
  obtain ⟨r2, I1b, J2, R2, d1, d2, d3⟩ := k_rule a1 a2 a3 (Rel_ref h (f1) (Fc_rf)) hn
  rw [e1] at d1
  cases d1
  have f2 := fr_X7_rule I1 A a1 a2 a3 r J2 R2 d2
  exact ⟨r, I1, J2, R2, e1, d2, Rel_cls d3 (f2.1) (f2.2)⟩
theorem g_variable (a1 a2 a3 : Int32) (h : Rel n I G A L I A) (hn : n < 1073741000) : ∃ r I1 A1 J2 R2, f_X6_variable I A a1 a2 a3 = some (r, I1, A1) ∧ f_X7_variable I1 A1 a1 a2 a3 = some (r, J2, R2) ∧ Rel (n + 1) J2 G R2 L J2 R2 := by
  obtain ⟨r, I1, A1, _, _, e1, _⟩ := k_variable a1 a2 a3 h hn
  have f1 := fr_X6_variable I A a1 a2 a3 r I1 A1 e1
  obtain ⟨r2, I1b, A1b, J2, R2, d1, d2, d3⟩ := k_variable a1 a2 a3 (Rel_ref h (f1.1) (f1.2)) hn
  rw [e1] at d1
  cases d1
  have f2 := fr_X7_variable I1 A1 a1 a2 a3 r J2 R2 d2
  exact ⟨r, I1, A1, J2, R2, e1, d2, Rel_cls d3 (f2.1) (f2.2)⟩
theorem g_cost (a1 a2 a3 a4 : Int32) (h : Rel n I G A L I A) (hn : n < 1073741000) : ∃ r I1 A1 J2 R2, f_X6_cost I A a1 a2 a3 a4 = some (r, I1, A1) ∧ f_X7_cost I1 A1 a1 a2 a3 a4 = some (r, J2, R2) ∧ Rel (n + 1) J2 G R2 L J2 R2 := by
  obtain ⟨r, I1, A1, _, _, e1, _⟩ := k_cost a1 a2 a3 a4 h hn
  have f1 := fr_X6_cost I A a1 a2 a3 a4 r I1 A1 e1
  obtain ⟨r2, I1b, A1b, J2, R2, d1, d2, d3⟩ := k_cost a1 a2 a3 a4 (Rel_ref h (f1.1) (f1.2)) hn
  rw [e1] at d1
  cases d1
  have f2 := fr_X7_cost I1 A1 a1 a2 a3 a4 r J2 R2 d2
  exact ⟨r, I1, A1, J2, R2, e1, d2, Rel_cls d3 (f2.1) (f2.2)⟩
theorem g_part (a1 a2 a3 a4 : Int32) (h : Rel n I G A L I A) (hn : n < 1073741000) : ∃ r I1 A1 J2 R2, f_X6_part I A a1 a2 a3 a4 = some (r, I1, A1) ∧ f_X7_part I1 A1 a1 a2 a3 a4 = some (r, J2, R2) ∧ Rel (n + 1) J2 G R2 L J2 R2 := by
  obtain ⟨r, I1, A1, _, _, e1, _⟩ := k_part a1 a2 a3 a4 h hn
  have f1 := fr_X6_part I A a1 a2 a3 a4 r I1 A1 e1
  obtain ⟨r2, I1b, A1b, J2, R2, d1, d2, d3⟩ := k_part a1 a2 a3 a4 (Rel_ref h (f1.1) (f1.2)) hn
  rw [e1] at d1
  cases d1
  have f2 := fr_X7_part I1 A1 a1 a2 a3 a4 r J2 R2 d2
  exact ⟨r, I1, A1, J2, R2, e1, d2, Rel_cls d3 (f2.1) (f2.2)⟩
theorem g_node (a1 a2 a3 : Int32) (h : Rel n I G A L I A) : ∃ r I1 J2 R2, f_X6_node I A a1 a2 a3 = some (r, I1) ∧ f_X7_node I1 A a1 a2 a3 = some (r, J2, R2) ∧ Rel (n + 1) J2 G R2 L J2 R2 := by
  obtain ⟨r, I1, _, _, e1, _⟩ := k_node a1 a2 a3 h 
  have f1 := fr_X6_node I A a1 a2 a3 r I1 e1
  obtain ⟨r2, I1b, J2, R2, d1, d2, d3⟩ := k_node a1 a2 a3 (Rel_ref h (f1) (Fc_rf)) 
  rw [e1] at d1
  cases d1
  have f2 := fr_X7_node I1 A a1 a2 a3 r J2 R2 d2
  exact ⟨r, I1, J2, R2, e1, d2, Rel_cls d3 (f2.1) (f2.2)⟩
theorem g_solve (a1 a2 : Int32) (h : Rel n I G A L I A) (hn : n ≤ 1000) : ∃ r I1 G1 A1 L1 J2 R2, f_X6_solve I G A L a1 a2 = some (r, I1, G1, A1, L1) ∧ f_X7_solve I1 A1 a1 a2 = some (r, J2, R2) ∧ Rel (n + 1) J2 G1 R2 L1 J2 R2 := by
  obtain ⟨r, I1, G1, A1, L1, _, _, e1, _⟩ := k_solve a1 a2 h hn
  have f1 := fr_X6_solve I G A L a1 a2 r I1 G1 A1 L1 e1
  obtain ⟨r2, I1b, G1b, A1b, L1b, J2, R2, d1, d2, d3⟩ := k_solve a1 a2 (Rel_ref h (f1.1) (f1.2.2.1)) hn
  rw [e1] at d1
  cases d1
  have f2 := fr_X7_solve I1 A1 a1 a2 r J2 R2 d2
  exact ⟨r, I1, G1, A1, L1, J2, R2, e1, d2, Rel_cls d3 (f2.1) (f2.2)⟩
end GL
