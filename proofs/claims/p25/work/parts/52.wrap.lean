theorem e_J7_fill_53178 (l : Launch) (D : va_G) (K : Nat → ClassId) (ad : Nat → Nat) (hap0 : apart ad (fun _ => True)) (s0 : Nat) (a1 : Int32) (I : Nat → Nat → Int32) (G : Nat → Nat → Nat) (A : Nat → Nat → Int32) (L : Nat → Nat → Int64) (A0 : Nat → Nat → Int32) (h : f_J7_fill_53178 A s0 a1 = some A0) : Cv l D K ad yJ7_fill_53178 wsJ7_fill_53178 0 0 [.ref (ad s0), .int a1] (I, G, A, L) (fun (u : Mem) => u = (I, G, A0, L)) := by
  unfold f_J7_fill_53178 at h
  obtain ⟨⟨h1, h2, h3⟩, h⟩ := gk h
  cases h
  exact c_fill l D K ad hap0 s0 _ a1 ⟨s318 h1, h2, rfl⟩ h3 I G A L
theorem e_X0_look (l : Launch) (D : va_G) (K : Nat → ClassId) (ad : Nat → Nat) (hap0 : apart ad (fun _ => True)) (o s1 s2 : Nat) (a3 a4 : Int32) (I : Nat → Nat → Int32) (G : Nat → Nat → Nat) (A : Nat → Nat → Int32) (L : Nat → Nat → Int64) (I0 : Nat → Nat → Int32) (h : f_X0_look I A o s1 s2 a3 a4 = some I0) : Cv l D K ad yX0_look wsX0_look 4 150 [.ref (ad o), .ref (ad s1), .ref (ad s2), .int a3, .int a4] (I, G, A, L) (fun (u : Mem) => u = (I0, G, A, L)) := by
  unfold f_X0_look at h
  obtain ⟨⟨h1, h2, h3, h4, h5, h6, h7, h8⟩, h⟩ := gk h
  cases h
  have q := c_X0_look l D K ad hap0 o s1 s2 _ _ _ a4 h1 h2 h3 h4 h6 I G A L h7 h8
  rw [← h5] at q
  exact q
theorem e_X5_nextFree (l : Launch) (D : va_G) (K : Nat → ClassId) (ad : Nat → Nat) (hap0 : apart ad (fun _ => True)) (o : Nat) (I : Nat → Nat → Int32) (G : Nat → Nat → Nat) (A : Nat → Nat → Int32) (L : Nat → Nat → Int64) (r0 : Int32) (h : f_X5_nextFree I A L o = some r0) : Ci l D K ad yX5_nextFree wsX5_nextFree 0 0 [.ref (ad o)] (I, G, A, L) (fun (r : Int32) (u : Mem) => r = r0 ∧ u = (I, G, A, L)) := by
  unfold f_X5_nextFree at h
  obtain ⟨⟨h1, h2, h3⟩, h⟩ := gk h
  cases h
  exact c_X5_nextFree l D K ad hap0 o _ h1 h2 I G A L h3
theorem e_X5_nextOfWalk (l : Launch) (D : va_G) (K : Nat → ClassId) (ad : Nat → Nat) (hap0 : apart ad (fun _ => True)) (o : Nat) (I : Nat → Nat → Int32) (G : Nat → Nat → Nat) (A : Nat → Nat → Int32) (L : Nat → Nat → Int64) (r0 : Int32) (h : f_X5_nextOfWalk I A L o = some r0) : Ci l D K ad yX5_nextOfWalk wsX5_nextOfWalk 0 0 [.ref (ad o)] (I, G, A, L) (fun (r : Int32) (u : Mem) => r = r0 ∧ u = (I, G, A, L)) := by
  unfold f_X5_nextOfWalk at h
  obtain ⟨⟨h1, h2, h3⟩, h⟩ := gk h
  cases h
  exact c_X5_nextOfWalk l D K ad hap0 o _ h1 h2 I G A L h3
theorem e_X5_copyValues (l : Launch) (D : va_G) (K : Nat → ClassId) (ad : Nat → Nat) (hap0 : apart ad (fun _ => True)) (o : Nat) (a1 : Int32) (s2 : Nat) (a3 : Int32) (I : Nat → Nat → Int32) (G : Nat → Nat → Nat) (A : Nat → Nat → Int32) (L : Nat → Nat → Int64) (A0 : Nat → Nat → Int32) (h : f_X5_copyValues A L o a1 s2 a3 = some A0) : Cv l D K ad yX5_copyValues wsX5_copyValues 2 80 [.ref (ad o), .int a1, .ref (ad s2), .int a3] (I, G, A, L) (fun (u : Mem) => u = (I, G, A0, L)) := by
  unfold f_X5_copyValues at h
  obtain ⟨⟨h1, h2, h3, h4, h5, h6, h7, h8, h9, h10⟩, h⟩ := gk h
  cases h
  have q := c_X5_copyValues l D K ad hap0 o _ h1 h2 s2 _ _ _ h4 h5 h6 h7 I G A L h10
  rw [← h3, ← h9] at q
  exact q
theorem e_X2_isBroken (l : Launch) (D : va_G) (K : Nat → ClassId) (ad : Nat → Nat) (hap0 : apart ad (fun _ => True)) (o s1 s2 : Nat) (I : Nat → Nat → Int32) (G : Nat → Nat → Nat) (A : Nat → Nat → Int32) (L : Nat → Nat → Int64) (r0 : Int32) (h : f_X2_isBroken I A o s1 s2 = some r0) : Ci l D K ad yX2_isBroken wsX2_isBroken 2 80 [.ref (ad o), .ref (ad s1), .ref (ad s2)] (I, G, A, L) (fun (r : Int32) (u : Mem) => r = r0 ∧ u = (I, G, A, L)) := by
  unfold f_X2_isBroken at h
  obtain ⟨⟨h1, h2, h3, h4⟩, h⟩ := gk h
  cases h
  exact c_X2_isBroken l D K ad hap0 o s1 s2 _ h1 h2 h3 I G A L h4
theorem e_X1_isOut (l : Launch) (D : va_G) (K : Nat → ClassId) (ad : Nat → Nat) (hap0 : apart ad (fun _ => True)) (o s1 : Nat) (a2 a3 : Int32) (I : Nat → Nat → Int32) (G : Nat → Nat → Nat) (A : Nat → Nat → Int32) (L : Nat → Nat → Int64) (r0 : Int32) (h : f_X1_isOut I A o s1 a2 a3 = some r0) : Ci l D K ad yX1_isOut wsX1_isOut 4 150 [.ref (ad o), .ref (ad s1), .int a2, .int a3] (I, G, A, L) (fun (r : Int32) (u : Mem) => r = r0 ∧ u = (I, G, A, L)) := by
  unfold f_X1_isOut at h
  obtain ⟨⟨h1, h2, h3, h4, h5, h6⟩, h⟩ := gk h
  cases h
  have q := c_X1_isOut l D K ad hap0 o s1 _ _ _ a3 h1 h2 h3 h4 I G A L h6
  rw [← h5] at q
  exact q
theorem e_X4_whoHasTurn (l : Launch) (D : va_G) (K : Nat → ClassId) (ad : Nat → Nat) (hap0 : apart ad (fun _ => True)) (o : Nat) (a1 : Int32) (I : Nat → Nat → Int32) (G : Nat → Nat → Nat) (A : Nat → Nat → Int32) (L : Nat → Nat → Int64) (r0 : Int32) (h : f_X4_whoHasTurn I A o a1 = some r0) : Ci l D K ad yX4_whoHasTurn wsX4_whoHasTurn 1 40 [.ref (ad o), .int a1] (I, G, A, L) (fun (r : Int32) (u : Mem) => r = r0 ∧ u = (I, G, A, L)) := by
  unfold f_X4_whoHasTurn at h
  obtain ⟨⟨h1, h2, h3, h4, h5, h6, h7, h8⟩, h⟩ := gk h
  cases h
  have q := c_X4_whoHasTurn l D K ad hap0 o h1 _ _ _ h3 h4 h5 h6 I G A L h7 h8
  rw [← h2] at q
  exact q
theorem e_X5_take (l : Launch) (D : va_G) (K : Nat → ClassId) (ad : Nat → Nat) (hap0 : apart ad (fun _ => True)) (o : Nat) (a1 : Int32) (I : Nat → Nat → Int32) (G : Nat → Nat → Nat) (A : Nat → Nat → Int32) (L : Nat → Nat → Int64) (I0 : Nat → Nat → Int32) (A0 : Nat → Nat → Int32) (h : f_X5_take I G A o a1 = some (I0, A0)) : Cv l D K ad yX5_take wsX5_take 1 40 [.ref (ad o), .int a1] (I, G, A, L) (fun (u : Mem) => u = (I0, G, A0, L)) := by
  unfold f_X5_take at h
  obtain ⟨⟨h1, h2, h3, h4, h5, h6, h7, h8⟩, h⟩ := gk h
  cases h
  have q := c_X5_take l D K ad hap0 o _ h1 h2 _ _ _ _ h3 h4 h5 I G A L rfl h6 h7
  rw [← h8] at q
  exact q
theorem e_X5_openBelow (l : Launch) (D : va_G) (K : Nat → ClassId) (ad : Nat → Nat) (hap0 : apart ad (fun _ => True)) (o : Nat) (a1 : Int32) (I : Nat → Nat → Int32) (G : Nat → Nat → Nat) (A : Nat → Nat → Int32) (L : Nat → Nat → Int64) (r0 : Int32) (h : f_X5_openBelow G A o a1 = some r0) : Ci l D K ad yX5_openBelow wsX5_openBelow 1 40 [.ref (ad o), .int a1] (I, G, A, L) (fun (r : Int32) (u : Mem) => r = r0 ∧ u = (I, G, A, L)) := by
  unfold f_X5_openBelow at h
  obtain ⟨⟨h1, h2, h3, h4, h5, h6⟩, h⟩ := gk h
  cases h
  have q := c_X5_openBelow l D K ad hap0 o _ h1 h2 _ _ _ h3 h4 I G A L rfl h5
  rw [← h6] at q
  exact q
