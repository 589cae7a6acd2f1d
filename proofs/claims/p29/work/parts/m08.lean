/-! part 46.cfns -/
/-- how many nodes lie below one -/
def wdo (G : Nat → Nat → Nat) (A : Nat → Nat → Int32) (T d : Nat) : Nat := if A (T + 7) d = -1 then 0 else (A (G T 14 + 1) (A (T + 2) d).toNatClampNeg).toNatClampNeg
def pre_J7_fill_53178 (A : Nat → Nat → Int32) (s0 : Nat) (a1 : Int32) : Prop := (s0 < 318) ∧ (kd s0 = 8) ∧ (ln s0 < 2147483648)
noncomputable def f_J7_fill_53178 (A : Nat → Nat → Int32) (s0 : Nat) (a1 : Int32) : Option ((Nat → Nat → Int32)) := @gd _ (pre_J7_fill_53178 A s0 a1) (Classical.propDecidable _) (some (fil A s0 (ln s0) a1))
def pre_X0_look (I : Nat → Nat → Int32) (A : Nat → Nat → Int32) (o s1 s2 : Nat) (a3 a4 : Int32) : Prop := (JuAt o) ∧ (PrAt s1) ∧ (IA s2 6) ∧ (s2 < 58) ∧ (a3 = nI a3.toNatClampNeg) ∧ (a3.toNatClampNeg ≤ (I s1 0).toNatClampNeg) ∧ (PrW I A s1 (I s1 0).toNatClampNeg (I s1 1).toNatClampNeg) ∧ (RoW A s1 s2 a3.toNatClampNeg)
noncomputable def f_X0_look (I : Nat → Nat → Int32) (A : Nat → Nat → Int32) (o s1 s2 : Nat) (a3 a4 : Int32) : Option ((Nat → Nat → Int32)) := @gd _ (pre_X0_look I A o s1 s2 a3 a4) (Classical.propDecidable _) (some (up2 (up2 (up2 I o 0 (lk I A s1 s2 (I s1 0).toNatClampNeg (I s1 1).toNatClampNeg a3.toNatClampNeg a4).1) o 1 (lk I A s1 s2 (I s1 0).toNatClampNeg (I s1 1).toNatClampNeg a3.toNatClampNeg a4).2.1) o 2 (lk I A s1 s2 (I s1 0).toNatClampNeg (I s1 1).toNatClampNeg a3.toNatClampNeg a4).2.2))
def pre_X5_nextFree (I : Nat → Nat → Int32) (A : Nat → Nat → Int32) (L : Nat → Nat → Int64) (o : Nat) : Prop := (TrAt o) ∧ ((I o 9).toNatClampNeg ≤ lT o) ∧ (I o 9 = nI (I o 9).toNatClampNeg)
noncomputable def f_X5_nextFree (I : Nat → Nat → Int32) (A : Nat → Nat → Int32) (L : Nat → Nat → Int64) (o : Nat) : Option (Int32) := @gd _ (pre_X5_nextFree I A L o) (Classical.propDecidable _) (some (nfr A L o (I o 9).toNatClampNeg 0 (-1)))
def pre_X5_nextOfWalk (I : Nat → Nat → Int32) (A : Nat → Nat → Int32) (L : Nat → Nat → Int64) (o : Nat) : Prop := (TrAt o) ∧ ((I o 9).toNatClampNeg ≤ lT o) ∧ (I o 9 = nI (I o 9).toNatClampNeg)
noncomputable def f_X5_nextOfWalk (I : Nat → Nat → Int32) (A : Nat → Nat → Int32) (L : Nat → Nat → Int64) (o : Nat) : Option (Int32) := @gd _ (pre_X5_nextOfWalk I A L o) (Classical.propDecidable _) (some (nwk A L o (I o 9).toNatClampNeg 0 (-1)))
def pre_X5_copyValues (A : Nat → Nat → Int32) (L : Nat → Nat → Int64) (o : Nat) (a1 : Int32) (s2 : Nat) (a3 : Int32) : Prop := (TrAt o) ∧ (a1.toNatClampNeg < lT o) ∧ (a1 = nI a1.toNatClampNeg) ∧ (IA s2 (ln s2)) ∧ (a3.toNatClampNeg + (A (o + 2) a1.toNatClampNeg).toNatClampNeg ≤ ln s2) ∧ (ln s2 ≤ 12) ∧ (s2 ≠ o + 2) ∧ (s2 < 318) ∧ (a3 = nI a3.toNatClampNeg) ∧ (A (o + 2) a1.toNatClampNeg = nI (A (o + 2) a1.toNatClampNeg).toNatClampNeg)
noncomputable def f_X5_copyValues (A : Nat → Nat → Int32) (L : Nat → Nat → Int64) (o : Nat) (a1 : Int32) (s2 : Nat) (a3 : Int32) : Option ((Nat → Nat → Int32)) := @gd _ (pre_X5_copyValues A L o a1 s2 a3) (Classical.propDecidable _) (some (cpy A s2 a3.toNatClampNeg (A (o + 2) a1.toNatClampNeg).toNatClampNeg (L (o + 1) a1.toNatClampNeg)))
def pre_X2_isBroken (I : Nat → Nat → Int32) (A : Nat → Nat → Int32) (o s1 s2 : Nat) : Prop := (RuAt o) ∧ (IA s1 6) ∧ (IA s2 6) ∧ (RuW I A o (nP I o))
noncomputable def f_X2_isBroken (I : Nat → Nat → Int32) (A : Nat → Nat → Int32) (o s1 s2 : Nat) : Option (Int32) := @gd _ (pre_X2_isBroken I A o s1 s2) (Classical.propDecidable _) (some (brk I A o s1 s2 (nP I o)))
def pre_X1_isOut (I : Nat → Nat → Int32) (A : Nat → Nat → Int32) (o s1 : Nat) (a2 a3 : Int32) : Prop := (PrAt o) ∧ (IA s1 6) ∧ (s1 < 58) ∧ (a2.toNatClampNeg < 6) ∧ (a2 = nI a2.toNatClampNeg) ∧ (PrW I A o (I o 0).toNatClampNeg (I o 1).toNatClampNeg)
noncomputable def f_X1_isOut (I : Nat → Nat → Int32) (A : Nat → Nat → Int32) (o s1 : Nat) (a2 a3 : Int32) : Option (Int32) := @gd _ (pre_X1_isOut I A o s1 a2 a3) (Classical.propDecidable _) (some (if A s1 a2.toNatClampNeg = -1 then (if fbk I (up2 A s1 a2.toNatClampNeg a3) o s1 (I o 1).toNatClampNeg = -9 then 0 else 1) else 0))
def pre_X4_whoHasTurn (I : Nat → Nat → Int32) (A : Nat → Nat → Int32) (o : Nat) (a1 : Int32) : Prop := (TeAt o) ∧ (a1 = nI a1.toNatClampNeg) ∧ (a1.toNatClampNeg < 2 ^ 30) ∧ ((I o 1).toNatClampNeg ≤ 200) ∧ (1 ≤ (I o 0).toNatClampNeg) ∧ ((I o 0).toNatClampNeg ≤ 5) ∧ (I o 0 = nI (I o 0).toNatClampNeg) ∧ (I o 1 = nI (I o 1).toNatClampNeg)
noncomputable def f_X4_whoHasTurn (I : Nat → Nat → Int32) (A : Nat → Nat → Int32) (o : Nat) (a1 : Int32) : Option (Int32) := @gd _ (pre_X4_whoHasTurn I A o a1) (Classical.propDecidable _) (some (if a1.toNatClampNeg < (I o 1).toNatClampNeg then (if A (o + 2) a1.toNatClampNeg < nI (I o 0).toNatClampNeg then A (o + 2) a1.toNatClampNeg else 0) else nI ((a1.toNatClampNeg - (I o 1).toNatClampNeg) % (I o 0).toNatClampNeg)))
def pre_X5_take (I : Nat → Nat → Int32) (G : Nat → Nat → Nat) (A : Nat → Nat → Int32) (o : Nat) (a1 : Int32) : Prop := (TrAt o) ∧ (a1.toNatClampNeg < lT o) ∧ (PrAt (G o 14)) ∧ (wdo G A o a1.toNatClampNeg ≤ 6) ∧ ((I o 11).toNatClampNeg < 250) ∧ (Bel A o (G o 14) a1.toNatClampNeg (A (o + 7) a1.toNatClampNeg).toNatClampNeg (wdo G A o a1.toNatClampNeg)) ∧ (I o 11 = nI (I o 11).toNatClampNeg) ∧ (a1 = nI a1.toNatClampNeg)
noncomputable def f_X5_take (I : Nat → Nat → Int32) (G : Nat → Nat → Nat) (A : Nat → Nat → Int32) (o : Nat) (a1 : Int32) : Option ((Nat → Nat → Int32) × (Nat → Nat → Int32)) := @gd _ (pre_X5_take I G A o a1) (Classical.propDecidable _) (some ((up2 I o 11 (nI (I o 11).toNatClampNeg + 1), rea (tkA A o a1.toNatClampNeg (I o 11).toNatClampNeg) o (A (o + 7) a1.toNatClampNeg).toNatClampNeg (wdo G A o a1.toNatClampNeg))))
def pre_X5_openBelow (G : Nat → Nat → Nat) (A : Nat → Nat → Int32) (o : Nat) (a1 : Int32) : Prop := (TrAt o) ∧ (a1.toNatClampNeg < lT o) ∧ (PrAt (G o 14)) ∧ (wdo G A o a1.toNatClampNeg ≤ 6) ∧ (Bel A o (G o 14) a1.toNatClampNeg (A (o + 7) a1.toNatClampNeg).toNatClampNeg (wdo G A o a1.toNatClampNeg)) ∧ (a1 = nI a1.toNatClampNeg)
noncomputable def f_X5_openBelow (G : Nat → Nat → Nat) (A : Nat → Nat → Int32) (o : Nat) (a1 : Int32) : Option (Int32) := @gd _ (pre_X5_openBelow G A o a1) (Classical.propDecidable _) (some (sm (fun i => if A (o + 3) ((A (o + 7) a1.toNatClampNeg).toNatClampNeg + i) = 0 then 1 else 0) (wdo G A o a1.toNatClampNeg) 0 0))
noncomputable def f_X1_hasRule (I : Nat → Nat → Int32) (o : Nat) (a1 : Int32) : Option (Int32) := if a1 < 0 then (some (0 : Int32)) else (gd (o < 318 ∧ kd o = 1) <| if a1 < (I o 1) then (some (1 : Int32)) else (some (0 : Int32)))
noncomputable def f_X1_hasVariable (I : Nat → Nat → Int32) (o : Nat) (a1 : Int32) : Option (Int32) := if a1 < 0 then (some (0 : Int32)) else (gd (o < 318 ∧ kd o = 1) <| if a1 < (I o 0) then (some (1 : Int32)) else (some (0 : Int32)))
noncomputable def f_X2_tell (I : Nat → Nat → Int32) (o : Nat) (a1 : Int32) : Option (Int32) := if a1 = 2 then (gd (o < 318 ∧ kd o = 2) <| some (I o 0)) else (if a1 = 3 then (gd (o < 318 ∧ kd o = 2) <| some (I o 1)) else (gd (o < 318 ∧ kd o = 2) <| some (I o 2)))
noncomputable def f_X6_grant (I : Nat → Nat → Int32) (a1 : Int32) : Option (Int32 × (Nat → Nat → Int32)) := bd (up2 I 0 17 0) fun I1 => some (a1, I1)
noncomputable def f_X6_isWithin (a0 : Int32) (a1 : Int32) (a2 : Int32) : Option (Int32) := if a0 < a1 then (some (0 : Int32)) else (if a2 < a0 then (some (0 : Int32)) else (some (1 : Int32)))
noncomputable def f_X6_isProblem (I : Nat → Nat → Int32) (a1 : Int32) : Option (Int32) := Option.bind (f_X6_isWithin a1 0 ((I 0 1) - 1)) fun r1 => gd (r1 = 0 ∨ r1 = 1) <| some r1
noncomputable def f_X6_refuse (I : Nat → Nat → Int32) (a1 : Int32) : Option (Int32 × (Nat → Nat → Int32)) := bd (up2 I 0 17 a1) fun I1 => some (((-1000000) : Int32), I1)
noncomputable def f_X6_about (I : Nat → Nat → Int32) (A : Nat → Nat → Int32) (a1 : Int32) (a2 : Int32) (a3 : Int32) : Option (Int32 × (Nat → Nat → Int32)) := Option.bind (f_X6_isProblem I a1) fun r1 => if r1 = 0 then (Option.bind (f_X6_refuse I (-1)) fun (r4, I5) => some (r4, I5)) else (Option.bind (f_X6_isWithin a2 0 6) fun r7 => if r7 = 0 then (Option.bind (f_X6_refuse I (-1)) fun (r55, I56) => some (r55, I56)) else (gd (inr a1 5) <| if a2 = 0 then (gd ((58 + 52 * a1.toNatClampNeg) < 318 ∧ kd (58 + 52 * a1.toNatClampNeg) = 1) <| Option.bind (f_X6_grant I (I (58 + 52 * a1.toNatClampNeg) 0)) fun (r52, I53) => some (r52, I53)) else (if a2 = 1 then (gd ((58 + 52 * a1.toNatClampNeg) < 318 ∧ kd (58 + 52 * a1.toNatClampNeg) = 1) <| Option.bind (f_X6_grant I (I (58 + 52 * a1.toNatClampNeg) 1)) fun (r48, I49) => some (r48, I49)) else (if 4 < a2 then (gd ((58 + 52 * a1.toNatClampNeg) < 318 ∧ kd (58 + 52 * a1.toNatClampNeg) = 1) <| Option.bind (f_X1_hasVariable I (58 + 52 * a1.toNatClampNeg) a3) fun r15 => if r15 = 0 then (Option.bind (f_X6_refuse I (-1)) fun (r29, I30) => some (r29, I30)) else (if a2 = 5 then (gd ((58 + 52 * a1.toNatClampNeg + 1) < 318 ∧ kd (58 + 52 * a1.toNatClampNeg + 1) = 8) <| gd (inr a3 (ln (58 + 52 * a1.toNatClampNeg + 1))) <| Option.bind (f_X6_grant I (A (58 + 52 * a1.toNatClampNeg + 1) a3.toNatClampNeg)) fun (r26, I27) => some (r26, I27)) else (gd ((58 + 52 * a1.toNatClampNeg + 2) < 318 ∧ kd (58 + 52 * a1.toNatClampNeg + 2) = 8) <| gd (inr a3 (ln (58 + 52 * a1.toNatClampNeg + 2))) <| Option.bind (f_X6_grant I (A (58 + 52 * a1.toNatClampNeg + 2) a3.toNatClampNeg)) fun (r21, I22) => some (r21, I22)))) else (gd ((58 + 52 * a1.toNatClampNeg) < 318 ∧ kd (58 + 52 * a1.toNatClampNeg) = 1) <| Option.bind (f_X1_hasRule I (58 + 52 * a1.toNatClampNeg) a3) fun r33 => if r33 = 0 then (Option.bind (f_X6_refuse I (-1)) fun (r36, I37) => some (r36, I37)) else (gd ((58 + 52 * a1.toNatClampNeg + 10) < 318 ∧ kd (58 + 52 * a1.toNatClampNeg + 10) = 14) <| gd (inr a3 (ln (58 + 52 * a1.toNatClampNeg + 10))) <| gd ((58 + 52 * a1.toNatClampNeg + 12 + 5 * a3.toNatClampNeg) < 318 ∧ kd (58 + 52 * a1.toNatClampNeg + 12 + 5 * a3.toNatClampNeg) = 2) <| Option.bind (f_X2_tell I (58 + 52 * a1.toNatClampNeg + 12 + 5 * a3.toNatClampNeg) a2) fun r42 => Option.bind (f_X6_grant I r42) fun (r44, I45) => some (r44, I45)))))))
noncomputable def f_X6_answer (I : Nat → Nat → Int32) (A : Nat → Nat → Int32) (a1 : Int32) (a2 : Int32) : Option (Int32) := Option.bind (f_X6_isProblem I a1) fun r1 => if r1 = 0 then (some ((-1) : Int32)) else (gd (inr a1 5) <| gd ((58 + 52 * a1.toNatClampNeg) < 318 ∧ kd (58 + 52 * a1.toNatClampNeg) = 1) <| Option.bind (f_X1_hasVariable I (58 + 52 * a1.toNatClampNeg) a2) fun r6 => if r6 = 0 then (some ((-1) : Int32)) else (if (I (58 + 52 * a1.toNatClampNeg) 3) = 0 then (some ((-9) : Int32)) else (gd ((58 + 52 * a1.toNatClampNeg + 11) < 318 ∧ kd (58 + 52 * a1.toNatClampNeg + 11) = 8) <| gd (inr (6 + a2) (ln (58 + 52 * a1.toNatClampNeg + 11))) <| some (A (58 + 52 * a1.toNatClampNeg + 11) ((6 + a2).toNatClampNeg)))))
noncomputable def f_X6_asNumber (a0 : Int32) : Option (Int32) := if a0 = 0 then (some (0 : Int32)) else (some (1 : Int32))
noncomputable def f_X6_ask (I : Nat → Nat → Int32) (A : Nat → Nat → Int32) (a1 : Int32) : Option (Int32 × (Nat → Nat → Int32) × (Nat → Nat → Int32)) := Option.bind (f_X6_isProblem I a1) fun r1 => if r1 = 0 then (some (((-1) : Int32), I, A)) else (bd (up2 I 0 7 a1) fun I4 => gd (inr a1 5) <| gd ((58 + 52 * a1.toNatClampNeg) < 318 ∧ kd (58 + 52 * a1.toNatClampNeg) = 1) <| bd (up2 I4 0 8 (I4 (58 + 52 * a1.toNatClampNeg) 2)) fun I7 => bd (up2 I7 0 9 0) fun I8 => Option.bind (f_J7_fill_53178 A 18 (-1)) fun A9 => some ((I8 (58 + 52 * a1.toNatClampNeg) 0), I8, A9))
noncomputable def f_X5_widthBelow (G : Nat → Nat → Nat) (A : Nat → Nat → Int32) (o : Nat) (a1 : Int32) : Option (Int32) := gd (o < 318 ∧ kd o = 5) <| gd ((o + 7) < 318 ∧ kd (o + 7) = 10) <| gd (inr a1 (ln (o + 7))) <| if (A (o + 7) a1.toNatClampNeg) = (-1) then (some (0 : Int32)) else (gd ((G o 14) < 318 ∧ kd (G o 14) = 1) <| gd ((o + 2) < 318 ∧ kd (o + 2) = 9) <| gd (inr a1 (ln (o + 2))) <| gd ((G o 14 + 1) < 318 ∧ kd (G o 14 + 1) = 8) <| gd (inr (A (o + 2) a1.toNatClampNeg) (ln (G o 14 + 1))) <| some (A (G o 14 + 1) ((A (o + 2) a1.toNatClampNeg).toNatClampNeg)))
noncomputable def f_X5_below (G : Nat → Nat → Nat) (A : Nat → Nat → Int32) (o : Nat) (a1 : Int32) (a2 : Int32) : Option (Int32) := if a2 < 0 then (some ((-1) : Int32)) else (gd (o < 318 ∧ kd o = 5) <| Option.bind (f_X5_widthBelow G A o a1) fun r3 => if a2 < r3 then (gd ((o + 7) < 318 ∧ kd (o + 7) = 10) <| gd (inr a1 (ln (o + 7))) <| some ((A (o + 7) a1.toNatClampNeg) + a2)) else (some ((-1) : Int32)))
noncomputable def f_X6_closed (I : Nat → Nat → Int32) (G : Nat → Nat → Nat) (A : Nat → Nat → Int32) (a1 : Int32) (a2 : Int32) (a3 : Int32) : Option (Int32) := Option.bind (f_X6_isWithin a3 0 1) fun r1 => if r1 = 0 then (some ((-1) : Int32)) else (gd ((G 0 6) < 318 ∧ kd (G 0 6) = 5) <| Option.bind (f_X6_isWithin a1 0 ((I (G 0 6) 11) - 1)) fun r5 => if r5 = 0 then (some ((-9) : Int32)) else (gd ((G 0 6 + 9) < 318 ∧ kd (G 0 6 + 9) = 8) <| gd (inr a1 (ln (G 0 6 + 9))) <| Option.bind (f_X5_below G A (G 0 6) (A (G 0 6 + 9) a1.toNatClampNeg) a2) fun r10 => if r10 = (-1) then (some ((-9) : Int32)) else (if a3 = 0 then (gd ((G 0 6 + 3) < 318 ∧ kd (G 0 6 + 3) = 9) <| gd (inr r10 (ln (G 0 6 + 3))) <| some (A (G 0 6 + 3) r10.toNatClampNeg)) else (gd ((G 0 6 + 4) < 318 ∧ kd (G 0 6 + 4) = 9) <| gd (inr r10 (ln (G 0 6 + 4))) <| some (A (G 0 6 + 4) r10.toNatClampNeg)))))
noncomputable def f_X1_hasValue (I : Nat → Nat → Int32) (A : Nat → Nat → Int32) (o : Nat) (a1 : Int32) (a2 : Int32) : Option (Int32) := gd (o < 318 ∧ kd o = 1) <| Option.bind (f_X1_hasVariable I o a1) fun r2 => if r2 = 0 then (some (0 : Int32)) else (if a2 < 0 then (some (0 : Int32)) else (gd ((o + 1) < 318 ∧ kd (o + 1) = 8) <| gd (inr a1 (ln (o + 1))) <| if a2 < (A (o + 1) a1.toNatClampNeg) then (some (1 : Int32)) else (some (0 : Int32))))
noncomputable def f_X1_change (I : Nat → Nat → Int32) (o : Nat) : Option ((Nat → Nat → Int32)) := gd (o < 318 ∧ kd o = 1) <| bd (up2 I o 2 ((I o 2) + 1)) fun I2 => bd (up2 I2 o 3 0) fun I3 => some I3
noncomputable def f_X1_setCost (I : Nat → Nat → Int32) (A : Nat → Nat → Int32) (o : Nat) (a1 : Int32) (a2 : Int32) (a3 : Int32) : Option (Int32 × (Nat → Nat → Int32) × (Nat → Nat → Int32)) := gd (o < 318 ∧ kd o = 1) <| Option.bind (f_X1_change I o) fun I2 => gd ((o + 2) < 318 ∧ kd (o + 2) = 8) <| gd (inr a1 (ln (o + 2))) <| if (A (o + 2) a1.toNatClampNeg) = 0 then (gd ((o + 3) < 318 ∧ kd (o + 3) = 15) <| gd (inr a1 (ln (o + 3))) <| gd ((o + 4 + a1.toNatClampNeg) < 318 ∧ kd (o + 4 + a1.toNatClampNeg) = 8) <| gd (inr a2 (ln (o + 4 + a1.toNatClampNeg))) <| bd (up2 A (o + 4 + a1.toNatClampNeg) a2.toNatClampNeg a3.toInt8.toInt32) fun A11 => some (a3.toInt8.toInt32, I2, A11)) else if (A (o + 2) a1.toNatClampNeg) = 1 then (gd ((o + 3) < 318 ∧ kd (o + 3) = 15) <| gd (inr a1 (ln (o + 3))) <| gd ((o + 4 + a1.toNatClampNeg) < 318 ∧ kd (o + 4 + a1.toNatClampNeg) = 8) <| gd (inr a2 (ln (o + 4 + a1.toNatClampNeg))) <| bd (up2 A (o + 4 + a1.toNatClampNeg) a2.toNatClampNeg a3.toInt16.toInt32) fun A16 => some (a3.toInt16.toInt32, I2, A16)) else if (A (o + 2) a1.toNatClampNeg) = 2 then (gd ((o + 3) < 318 ∧ kd (o + 3) = 15) <| gd (inr a1 (ln (o + 3))) <| gd ((o + 4 + a1.toNatClampNeg) < 318 ∧ kd (o + 4 + a1.toNatClampNeg) = 8) <| gd (inr a2 (ln (o + 4 + a1.toNatClampNeg))) <| bd (up2 A (o + 4 + a1.toNatClampNeg) a2.toNatClampNeg (((a3.toUInt32 % 65536).toInt32))) fun A21 => some (((a3.toUInt32 % 65536).toInt32), I2, A21)) else (gd ((o + 3) < 318 ∧ kd (o + 3) = 15) <| gd (inr a1 (ln (o + 3))) <| gd ((o + 4 + a1.toNatClampNeg) < 318 ∧ kd (o + 4 + a1.toNatClampNeg) = 8) <| gd (inr a2 (ln (o + 4 + a1.toNatClampNeg))) <| bd (up2 A (o + 4 + a1.toNatClampNeg) a2.toNatClampNeg a3) fun A26 => some (a3, I2, A26))
noncomputable def f_X6_cost (I : Nat → Nat → Int32) (A : Nat → Nat → Int32) (a1 : Int32) (a2 : Int32) (a3 : Int32) (a4 : Int32) : Option (Int32 × (Nat → Nat → Int32) × (Nat → Nat → Int32)) := Option.bind (f_X6_isProblem I a1) fun r1 => if r1 = 0 then (Option.bind (f_X6_refuse I (-1)) fun (r4, I5) => some (r4, I5, A)) else (gd (inr a1 5) <| gd ((58 + 52 * a1.toNatClampNeg) < 318 ∧ kd (58 + 52 * a1.toNatClampNeg) = 1) <| Option.bind (f_X1_hasValue I A (58 + 52 * a1.toNatClampNeg) a2 a3) fun r9 => if r9 = 0 then (Option.bind (f_X6_refuse I (-1)) fun (r12, I13) => some (r12, I13, A)) else (Option.bind (f_X6_isWithin a4 (-100000) 100000) fun r15 => if r15 = 0 then (Option.bind (f_X6_refuse I (-1)) fun (r29, I30) => some (r29, I30, A)) else (if (I 0 5) = (-9) then (Option.bind (f_X1_setCost I A (58 + 52 * a1.toNatClampNeg) a2 a3 a4) fun (r19, I20, A21) => Option.bind (f_X6_grant I20 r19) fun (r23, I24) => some (r23, I24, A21)) else (Option.bind (f_X6_refuse I (-2)) fun (r26, I27) => some (r26, I27, A)))))
noncomputable def f_X6_costs (I : Nat → Nat → Int32) (A : Nat → Nat → Int32) (a1 : Int32) (a2 : Int32) (a3 : Int32) : Option (Int32 × (Nat → Nat → Int32)) := Option.bind (f_X6_isProblem I a1) fun r1 => if r1 = 0 then (Option.bind (f_X6_refuse I (-1)) fun (r4, I5) => some (r4, I5)) else (gd (inr a1 5) <| gd ((58 + 52 * a1.toNatClampNeg) < 318 ∧ kd (58 + 52 * a1.toNatClampNeg) = 1) <| Option.bind (f_X1_hasValue I A (58 + 52 * a1.toNatClampNeg) a2 a3) fun r9 => if r9 = 0 then (Option.bind (f_X6_refuse I (-1)) fun (r19, I20) => some (r19, I20)) else (gd ((58 + 52 * a1.toNatClampNeg + 3) < 318 ∧ kd (58 + 52 * a1.toNatClampNeg + 3) = 15) <| gd (inr a2 (ln (58 + 52 * a1.toNatClampNeg + 3))) <| gd ((58 + 52 * a1.toNatClampNeg + 4 + a2.toNatClampNeg) < 318 ∧ kd (58 + 52 * a1.toNatClampNeg + 4 + a2.toNatClampNeg) = 8) <| gd (inr a3 (ln (58 + 52 * a1.toNatClampNeg + 4 + a2.toNatClampNeg))) <| Option.bind (f_X6_grant I (A (58 + 52 * a1.toNatClampNeg + 4 + a2.toNatClampNeg) a3.toNatClampNeg)) fun (r16, I17) => some (r16, I17)))
noncomputable def f_X6_count (I : Nat → Nat → Int32) (G : Nat → Nat → Nat) (a1 : Int32) : Option (Int32) := bd (fun (z1 : Int32) => if a1 = 0 then (some (I 0 1)) else if a1 = 1 then (some (I 0 3)) else if a1 = 2 then (some (I 2 0)) else if a1 = 3 then (some (I 2 1)) else if a1 = 4 then (some (I 0 5)) else if a1 = 5 then (if z1 = 0 then (some (0 : Int32)) else (gd ((G 14 0) < 318 ∧ kd (G 14 0) = 5) <| some (I (G 14 0) 9))) else if a1 = 6 then (if z1 = 0 then (some (0 : Int32)) else (gd ((G 14 0) < 318 ∧ kd (G 14 0) = 5) <| some (I (G 14 0) 10))) else if a1 = 7 then (if z1 = 0 then (some (0 : Int32)) else (gd ((G 14 0) < 318 ∧ kd (G 14 0) = 5) <| some (I (G 14 0) 11))) else (some ((-1) : Int32))) fun j2 => if (I 0 5) = (-9) then (j2 0) else (j2 1)
noncomputable def f_X5_boundOf (L : Nat → Nat → Int64) (o : Nat) (a1 : Int32) : Option (Int32) := gd (o < 318 ∧ kd o = 5) <| gd ((o + 1) < 318 ∧ kd (o + 1) = 12) <| gd (inr a1 (ln (o + 1))) <| some (((L (o + 1) a1.toNatClampNeg) >>> ((18 : Int32).toInt64 &&& 63)).toInt32)
noncomputable def f_X3_sumUp (I : Nat → Nat → Int32) (G : Nat → Nat → Nat) (A : Nat → Nat → Int32) (L : Nat → Nat → Int64) (a1 : Int32) (s2 : Nat) : Option ((Nat → Nat → Int32)) := bd (fun (z3 : Int32) => bd (fun (z11 : Int32) => bd (fun (z16 : Int32) => Option.bind (f_J7_fill_53178 A s2 (-9)) fun A18 => gd (s2 < 318 ∧ kd s2 = 8) <| gd (inr 0 (ln s2)) <| bd (up2 A18 s2 0 a1) fun A22 => gd ((G 14 0) < 318 ∧ kd (G 14 0) = 5) <| gd (inr 1 (ln s2)) <| bd (up2 A22 s2 1 ((I (G 14 0) 11))) fun A25 => gd (inr 2 (ln s2)) <| bd (up2 A25 s2 2 ((I (G 14 0) 10))) fun A27 => gd (inr 3 (ln s2)) <| bd (up2 A27 s2 3 ((I 14 3))) fun A29 => if z3 = 0 then (gd (inr 4 (ln s2)) <| bd (up2 A29 s2 4 ((-1000000))) fun A32 => gd (inr 5 (ln s2)) <| bd (up2 A32 s2 5 z16) fun A34 => if z3 = 0 then (some A34) else (Option.bind (f_X5_copyValues A34 L (G 14 0) z11 s2 6) fun A36 => some A36)) else (gd (inr 4 (ln s2)) <| bd (up2 A29 s2 4 z16) fun A39 => gd (inr 5 (ln s2)) <| bd (up2 A39 s2 5 z16) fun A41 => if z3 = 0 then (some A41) else (Option.bind (f_X5_copyValues A41 L (G 14 0) z11 s2 6) fun A43 => some A43))) fun j17 => if z11 = (-1) then (j17 (-1000000)) else (gd ((G 14 0) < 318 ∧ kd (G 14 0) = 5) <| Option.bind (f_X5_boundOf L (G 14 0) z11) fun r47 => j17 r47)) fun j12 => if z3 = 0 then (gd ((G 14 0) < 318 ∧ kd (G 14 0) = 5) <| Option.bind (f_X5_nextOfWalk I A L (G 14 0)) fun r51 => j12 r51) else (gd ((G 14 0) < 318 ∧ kd (G 14 0) = 5) <| gd ((G 14 0 + 9) < 318 ∧ kd (G 14 0 + 9) = 8) <| gd (inr ((I (G 14 0) 11) - 1) (ln (G 14 0 + 9))) <| j12 (A (G 14 0 + 9) (((I (G 14 0) 11) - 1).toNatClampNeg)))) fun j4 => if a1 = 1 then (gd ((G 14 0) < 318 ∧ kd (G 14 0) = 5) <| if 0 < (I (G 14 0) 11) then (j4 1) else (j4 0)) else (j4 0)
noncomputable def f_X6_endSolving (I : Nat → Nat → Int32) (G : Nat → Nat → Nat) (A : Nat → Nat → Int32) (L : Nat → Nat → Int64) (a1 : Int32) : Option ((Nat → Nat → Int32) × (Nat → Nat → Nat) × (Nat → Nat → Int32)) := Option.bind (f_X6_isProblem I (I 0 5)) fun r1 => if r1 = 0 then (some (I, G, A)) else (gd (inr (I 0 5) 5) <| gd ((58 + 52 * ((I 0 5).toNatClampNeg)) < 318 ∧ kd (58 + 52 * ((I 0 5).toNatClampNeg)) = 1) <| Option.bind (f_X3_sumUp I G A L a1 (58 + 52 * ((I 0 5).toNatClampNeg) + 11)) fun A6 => bd (up2 I (58 + 52 * ((I 0 5).toNatClampNeg)) 3 1) fun I8 => bd (up2 G 0 6 (G 14 0)) fun G9 => bd (up2 G9 14 0 (G 0 6)) fun G10 => bd (up2 I8 0 5 (-9)) fun I11 => some (I11, G10, A6))
noncomputable def f_X6_fail (I : Nat → Nat → Int32) (A : Nat → Nat → Int32) (a1 : Int32) (a2 : Int32) : Option (Int32 × (Nat → Nat → Int32)) := Option.bind (f_X6_isWithin a1 0 ((I 2 0) - 1)) fun r1 => if r1 = 0 then (some (((-1) : Int32), A)) else (Option.bind (f_X6_isWithin a2 0 200) fun r4 => if r4 = 0 then (some (((-1) : Int32), A)) else (if (I 0 5) = (-9) then (gd (inr a1 5) <| bd (up2 A 3 a1.toNatClampNeg a2) fun A9 => some ((1 : Int32), A9)) else (some (((-2) : Int32), A))))
noncomputable def f_X6_giveUp (I : Nat → Nat → Int32) : Option (Int32 × (Nat → Nat → Int32)) := if (I 0 5) = (-9) then (some (((-2) : Int32), I)) else (bd (up2 I 0 5 (-9)) fun I2 => some ((I 0 5), I2))
noncomputable def f_X6_helper (A : Nat → Nat → Int32) (a1 : Int32) (a2 : Int32) : Option (Int32) := Option.bind (f_X6_isWithin a1 0 4) fun r1 => if r1 = 0 then (some ((-1) : Int32)) else (if a2 = 0 then (gd (inr a1 5) <| some (A 5 a1.toNatClampNeg)) else if a2 = 1 then (gd (inr a1 5) <| some (A 6 a1.toNatClampNeg)) else if a2 = 2 then (gd (inr a1 5) <| some (A 7 a1.toNatClampNeg)) else (some ((-1) : Int32)))
noncomputable def f_X4_become (I : Nat → Nat → Int32) (A : Nat → Nat → Int32) (o : Nat) (a1 : Int32) : Option ((Nat → Nat → Int32) × (Nat → Nat → Int32)) := gd (o < 318 ∧ kd o = 4) <| bd (up2 I o 0 a1) fun I2 => Option.bind (f_J7_fill_53178 A (o + 1) 0) fun A3 => some (I2, A3)
noncomputable def f_X6_helpers (I : Nat → Nat → Int32) (A : Nat → Nat → Int32) (a1 : Int32) : Option (Int32 × (Nat → Nat → Int32) × (Nat → Nat → Int32)) := Option.bind (f_X6_isWithin a1 1 5) fun r1 => if r1 = 0 then (some (((-1) : Int32), I, A)) else (if (I 0 5) = (-9) then (Option.bind (f_X4_become I A 2 a1) fun (I5, A6) => some ((I 2 0), I5, A6)) else (some (((-2) : Int32), I, A)))
noncomputable def f_X6_isRuleNumber (a0 : Int32) : Option (Int32) := Option.bind (f_X6_isWithin a0 (-1000) 1000) fun r1 => gd (r1 = 0 ∨ r1 = 1) <| some r1
noncomputable def f_X6_isSameOutcome_L4 (A : Nat → Nat → Int32) (k4 : (Int32) → Option (Int32)) : Nat → (Int32) → (Int32) → Option (Int32)
  | 0, _, _ => none
  | n + 1, v2, v3 => if v2 < 12 then (bd (fun (z9 : Int32) => if v3 = 0 then (f_X6_isSameOutcome_L4 A k4 n (v2 + 1) 0) else (if z9 = 0 then (gd (inr v2 12) <| if (A 20 v2.toNatClampNeg) = (A 21 v2.toNatClampNeg) then (f_X6_isSameOutcome_L4 A k4 n (v2 + 1) 1) else (f_X6_isSameOutcome_L4 A k4 n (v2 + 1) 0)) else (f_X6_isSameOutcome_L4 A k4 n (v2 + 1) 1))) fun j10 => if v2 = 2 then (j10 1) else (if v2 = 3 then (j10 1) else (j10 0))) else (k4 v3)
noncomputable def f_X6_isSameOutcome (A : Nat → Nat → Int32) : Option (Int32) := bd (fun (v5 : Int32) => gd (v5 = 0 ∨ v5 = 1) <| some v5) fun k4 => f_X6_isSameOutcome_L4 A k4 FU 0 1
noncomputable def f_X6_limit (I : Nat → Nat → Int32) (a1 : Int32) : Option (Int32 × (Nat → Nat → Int32)) := Option.bind (f_X6_isWithin a1 0 1000) fun r1 => if r1 = 0 then (some (((-1) : Int32), I)) else (if (I 0 5) = (-9) then (bd (up2 I 0 3 a1) fun I5 => some ((I 0 3), I5)) else (some (((-2) : Int32), I)))
noncomputable def f_X6_node (I : Nat → Nat → Int32) (A : Nat → Nat → Int32) (a1 : Int32) (a2 : Int32) (a3 : Int32) : Option (Int32 × (Nat → Nat → Int32)) := Option.bind (f_X6_isWithin a1 0 4) fun r1 => if r1 = 0 then (some (((-1) : Int32), I)) else (if (I 0 7) = (-9) then (some (((-2) : Int32), I)) else (gd (inr (I 0 7) 5) <| gd ((58 + 52 * ((I 0 7).toNatClampNeg)) < 318 ∧ kd (58 + 52 * ((I 0 7).toNatClampNeg)) = 1) <| if (I (58 + 52 * ((I 0 7).toNatClampNeg)) 2) = (I 0 8) then (if a1 = 0 then (Option.bind (f_X1_hasRule I (58 + 52 * ((I 0 7).toNatClampNeg)) a2) fun r21 => if r21 = 0 then (some (((-1) : Int32), I)) else (gd ((58 + 52 * ((I 0 7).toNatClampNeg) + 10) < 318 ∧ kd (58 + 52 * ((I 0 7).toNatClampNeg) + 10) = 14) <| gd (inr a2 (ln (58 + 52 * ((I 0 7).toNatClampNeg) + 10))) <| gd ((58 + 52 * ((I 0 7).toNatClampNeg) + 12 + 5 * a2.toNatClampNeg) < 318 ∧ kd (58 + 52 * ((I 0 7).toNatClampNeg) + 12 + 5 * a2.toNatClampNeg) = 2) <| Option.bind (f_X2_isBroken I A (58 + 52 * ((I 0 7).toNatClampNeg) + 12 + 5 * a2.toNatClampNeg) 18 (58 + 52 * ((I 0 7).toNatClampNeg) + 1)) fun r27 => Option.bind (f_X6_asNumber r27) fun r29 => some (r29, I))) else (if a1 = 1 then (Option.bind (f_X1_hasValue I A (58 + 52 * ((I 0 7).toNatClampNeg)) a2 a3) fun r14 => if r14 = 0 then (some (((-1) : Int32), I)) else (Option.bind (f_X1_isOut I A (58 + 52 * ((I 0 7).toNatClampNeg)) 18 a2 a3) fun r17 => Option.bind (f_X6_asNumber r17) fun r19 => some (r19, I))) else (Option.bind (f_X0_look I A 17 (58 + 52 * ((I 0 7).toNatClampNeg)) 18 (I 0 9) 1) fun I10 => if a1 = 2 then (some ((I10 17 0), I10)) else (if a1 = 3 then (some ((I10 17 2), I10)) else (some ((I10 17 1), I10)))))) else (some (((-2) : Int32), I))))
noncomputable def f_X1_setNumber (I : Nat → Nat → Int32) (o : Nat) (a1 : Int32) (a2 : Int32) : Option (Int32 × (Nat → Nat → Int32)) := gd (o < 318 ∧ kd o = 1) <| Option.bind (f_X1_change I o) fun I2 => gd ((o + 10) < 318 ∧ kd (o + 10) = 14) <| gd (inr a1 (ln (o + 10))) <| gd ((o + 12 + 5 * a1.toNatClampNeg) < 318 ∧ kd (o + 12 + 5 * a1.toNatClampNeg) = 2) <| bd (up2 I2 (o + 12 + 5 * a1.toNatClampNeg) 1 a2) fun I7 => some ((I2 (o + 12 + 5 * a1.toNatClampNeg) 1), I7)
noncomputable def f_X6_number (I : Nat → Nat → Int32) (a1 : Int32) (a2 : Int32) (a3 : Int32) : Option (Int32 × (Nat → Nat → Int32)) := Option.bind (f_X6_isProblem I a1) fun r1 => if r1 = 0 then (Option.bind (f_X6_refuse I (-1)) fun (r4, I5) => some (r4, I5)) else (gd (inr a1 5) <| gd ((58 + 52 * a1.toNatClampNeg) < 318 ∧ kd (58 + 52 * a1.toNatClampNeg) = 1) <| Option.bind (f_X1_hasRule I (58 + 52 * a1.toNatClampNeg) a2) fun r9 => if r9 = 0 then (Option.bind (f_X6_refuse I (-1)) fun (r12, I13) => some (r12, I13)) else (Option.bind (f_X6_isRuleNumber a3) fun r15 => if r15 = 0 then (Option.bind (f_X6_refuse I (-1)) fun (r28, I29) => some (r28, I29)) else (if (I 0 5) = (-9) then (Option.bind (f_X1_setNumber I (58 + 52 * a1.toNatClampNeg) a2 a3) fun (r19, I20) => Option.bind (f_X6_grant I20 r19) fun (r22, I23) => some (r22, I23)) else (Option.bind (f_X6_refuse I (-2)) fun (r25, I26) => some (r25, I26)))))
noncomputable def f_X2_add (I : Nat → Nat → Int32) (A : Nat → Nat → Int32) (o : Nat) (a1 : Int32) (a2 : Int32) : Option ((Nat → Nat → Int32) × (Nat → Nat → Int32)) := gd (o < 318 ∧ kd o = 2) <| gd ((o + 1) < 318 ∧ kd (o + 1) = 8) <| gd (inr (I o 2) (ln (o + 1))) <| bd (up2 A (o + 1) ((I o 2).toNatClampNeg) a1) fun A4 => gd ((o + 2) < 318 ∧ kd (o + 2) = 8) <| gd (inr (I o 2) (ln (o + 2))) <| bd (up2 A4 (o + 2) ((I o 2).toNatClampNeg) a2) fun A7 => gd ((o + 3) < 318 ∧ kd (o + 3) = 11) <| gd (inr a1 (ln (o + 3))) <| bd (up2 A7 (o + 3) a1.toNatClampNeg (vp_nar .boolean 1)) fun A10 => gd ((o + 4) < 318 ∧ kd (o + 4) = 8) <| gd (inr a1 (ln (o + 4))) <| bd (up2 A10 (o + 4) a1.toNatClampNeg a2) fun A13 => bd (up2 I o 2 ((I o 2) + 1)) fun I14 => some (I14, A13)
noncomputable def f_X1_addPart (I : Nat → Nat → Int32) (A : Nat → Nat → Int32) (o : Nat) (a1 : Int32) (a2 : Int32) (a3 : Int32) : Option (Int32 × (Nat → Nat → Int32) × (Nat → Nat → Int32)) := gd (o < 318 ∧ kd o = 1) <| Option.bind (f_X1_change I o) fun I2 => gd ((o + 10) < 318 ∧ kd (o + 10) = 14) <| gd (inr a1 (ln (o + 10))) <| gd ((o + 12 + 5 * a1.toNatClampNeg) < 318 ∧ kd (o + 12 + 5 * a1.toNatClampNeg) = 2) <| Option.bind (f_X2_add I2 A (o + 12 + 5 * a1.toNatClampNeg) a2 a3) fun (I7, A8) => some ((I7 (o + 12 + 5 * a1.toNatClampNeg) 2), I7, A8)
noncomputable def f_X6_part (I : Nat → Nat → Int32) (A : Nat → Nat → Int32) (a1 : Int32) (a2 : Int32) (a3 : Int32) (a4 : Int32) : Option (Int32 × (Nat → Nat → Int32) × (Nat → Nat → Int32)) := Option.bind (f_X6_isProblem I a1) fun r1 => if r1 = 0 then (some (((-1) : Int32), I, A)) else (Option.bind (f_X6_isWithin a4 (-50) 50) fun r4 => if r4 = 0 then (some (((-1) : Int32), I, A)) else (gd (inr a1 5) <| gd ((58 + 52 * a1.toNatClampNeg) < 318 ∧ kd (58 + 52 * a1.toNatClampNeg) = 1) <| Option.bind (f_X1_hasRule I (58 + 52 * a1.toNatClampNeg) a2) fun r9 => if r9 = 0 then (some (((-1) : Int32), I, A)) else (Option.bind (f_X1_hasVariable I (58 + 52 * a1.toNatClampNeg) a3) fun r12 => if r12 = 0 then (some (((-1) : Int32), I, A)) else (if (I 0 5) = (-9) then (gd ((58 + 52 * a1.toNatClampNeg + 10) < 318 ∧ kd (58 + 52 * a1.toNatClampNeg + 10) = 14) <| gd (inr a2 (ln (58 + 52 * a1.toNatClampNeg + 10))) <| gd ((58 + 52 * a1.toNatClampNeg + 12 + 5 * a2.toNatClampNeg) < 318 ∧ kd (58 + 52 * a1.toNatClampNeg + 12 + 5 * a2.toNatClampNeg) = 2) <| gd ((58 + 52 * a1.toNatClampNeg + 12 + 5 * a2.toNatClampNeg + 3) < 318 ∧ kd (58 + 52 * a1.toNatClampNeg + 12 + 5 * a2.toNatClampNeg + 3) = 11) <| gd (inr a3 (ln (58 + 52 * a1.toNatClampNeg + 12 + 5 * a2.toNatClampNeg + 3))) <| if (A (58 + 52 * a1.toNatClampNeg + 12 + 5 * a2.toNatClampNeg + 3) a3.toNatClampNeg) = 0 then (Option.bind (f_X1_addPart I A (58 + 52 * a1.toNatClampNeg) a2 a3 a4) fun (r22, I23, A24) => some (r22, I23, A24)) else (some (((-2) : Int32), I, A))) else (some (((-2) : Int32), I, A))))))
noncomputable def f_X6_plain (I : Nat → Nat → Int32) : Option (Int32 × (Nat → Nat → Int32)) := if (I 0 5) = (-9) then (bd (up2 I 2 1 0) fun I2 => some ((I 2 1), I2)) else (some (((-2) : Int32), I))
noncomputable def f_X6_problem (I : Nat → Nat → Int32) : Option (Int32 × (Nat → Nat → Int32)) := if (I 0 5) = (-9) then (if (I 0 1) < 5 then (bd (up2 I 0 1 ((I 0 1) + 1)) fun I3 => some ((I 0 1), I3)) else (some (((-3) : Int32), I))) else (some (((-2) : Int32), I))
noncomputable def f_X6_row (A : Nat → Nat → Int32) (a1 : Int32) : Option (Int32) := Option.bind (f_X6_isWithin a1 0 5) fun r1 => if r1 = 0 then (some ((-9) : Int32)) else (gd (inr a1 6) <| some (A 19 a1.toNatClampNeg))
noncomputable def f_X1_addRule (I : Nat → Nat → Int32) (o : Nat) (a1 : Int32) (a2 : Int32) : Option (Int32 × (Nat → Nat → Int32)) := gd (o < 318 ∧ kd o = 1) <| Option.bind (f_X1_change I o) fun I2 => gd ((o + 10) < 318 ∧ kd (o + 10) = 14) <| gd (inr (I2 o 1) (ln (o + 10))) <| gd ((o + 12 + 5 * ((I2 o 1).toNatClampNeg)) < 318 ∧ kd (o + 12 + 5 * ((I2 o 1).toNatClampNeg)) = 2) <| bd (up2 I2 (o + 12 + 5 * ((I2 o 1).toNatClampNeg)) 0 a1) fun I7 => gd (inr (I7 o 1) (ln (o + 10))) <| gd ((o + 12 + 5 * ((I7 o 1).toNatClampNeg)) < 318 ∧ kd (o + 12 + 5 * ((I7 o 1).toNatClampNeg)) = 2) <| bd (up2 I7 (o + 12 + 5 * ((I7 o 1).toNatClampNeg)) 1 a2) fun I10 => bd (up2 I10 o 1 ((I10 o 1) + 1)) fun I11 => some ((I10 o 1), I11)
noncomputable def f_X6_rule (I : Nat → Nat → Int32) (a1 : Int32) (a2 : Int32) (a3 : Int32) : Option (Int32 × (Nat → Nat → Int32)) := Option.bind (f_X6_isProblem I a1) fun r1 => if r1 = 0 then (some (((-1) : Int32), I)) else (Option.bind (f_X6_isWithin a2 0 7) fun r4 => if r4 = 0 then (some (((-1) : Int32), I)) else (Option.bind (f_X6_isRuleNumber a3) fun r7 => if r7 = 0 then (some (((-1) : Int32), I)) else (if (I 0 5) = (-9) then (gd (inr a1 5) <| gd ((58 + 52 * a1.toNatClampNeg) < 318 ∧ kd (58 + 52 * a1.toNatClampNeg) = 1) <| if (I (58 + 52 * a1.toNatClampNeg) 1) < 8 then (Option.bind (f_X1_addRule I (58 + 52 * a1.toNatClampNeg) a2 a3) fun (r14, I15) => some (r14, I15)) else (some (((-3) : Int32), I))) else (some (((-2) : Int32), I)))))
noncomputable def f_X5_addJudged (I : Nat → Nat → Int32) (A : Nat → Nat → Int32) (L : Nat → Nat → Int64) (o : Nat) (a1 : Int32) (a2 : Int64) : Option ((Nat → Nat → Int32) × (Nat → Nat → Int32) × (Nat → Nat → Int64)) := gd (o < 318 ∧ kd o = 5) <| gd ((o + 11) < 318 ∧ kd (o + 11) = 0) <| gd ((o + 1) < 318 ∧ kd (o + 1) = 12) <| gd (inr (I o 9) (ln (o + 1))) <| bd (up2 L (o + 1) ((I o 9).toNatClampNeg) (((((I (o + 11) 2).toInt64) <<< ((18 : Int32).toInt64 &&& 63)) ||| a2))) fun L5 => gd ((o + 2) < 318 ∧ kd (o + 2) = 9) <| gd (inr (I o 9) (ln (o + 2))) <| bd (up2 A (o + 2) ((I o 9).toNatClampNeg) (vp_nar .byte a1.toInt8.toInt32)) fun A8 => gd ((o + 3) < 318 ∧ kd (o + 3) = 9) <| gd (inr (I o 9) (ln (o + 3))) <| bd (up2 A8 (o + 3) ((I o 9).toNatClampNeg) (vp_nar .byte ((I (o + 11) 0).toInt8.toInt32))) fun A11 => gd ((o + 4) < 318 ∧ kd (o + 4) = 9) <| gd (inr (I o 9) (ln (o + 4))) <| bd (up2 A11 (o + 4) ((I o 9).toNatClampNeg) (vp_nar .byte ((I (o + 11) 1).toInt8.toInt32))) fun A14 => gd ((o + 5) < 318 ∧ kd (o + 5) = 9) <| gd (inr (I o 9) (ln (o + 5))) <| bd (up2 A14 (o + 5) ((I o 9).toNatClampNeg) (vp_nar .byte 0)) fun A17 => gd ((o + 6) < 318 ∧ kd (o + 6) = 9) <| gd (inr (I o 9) (ln (o + 6))) <| bd (up2 A17 (o + 6) ((I o 9).toNatClampNeg) (vp_nar .byte (-9))) fun A20 => gd ((o + 7) < 318 ∧ kd (o + 7) = 10) <| gd (inr (I o 9) (ln (o + 7))) <| bd (up2 A20 (o + 7) ((I o 9).toNatClampNeg) (vp_nar .short (-1))) fun A23 => gd ((o + 8) < 318 ∧ kd (o + 8) = 11) <| gd (inr (I o 9) (ln (o + 8))) <| bd (up2 A23 (o + 8) ((I o 9).toNatClampNeg) (vp_nar .boolean 0)) fun A26 => bd (up2 I o 9 ((I o 9) + 1)) fun I27 => some (I27, A26, L5)
noncomputable def f_X5_plant (I : Nat → Nat → Int32) (G : Nat → Nat → Nat) (A : Nat → Nat → Int32) (L : Nat → Nat → Int64) (o : Nat) (s1 : Nat) (a2 : Int32) : Option ((Nat → Nat → Int32) × (Nat → Nat → Nat) × (Nat → Nat → Int32) × (Nat → Nat → Int64)) := gd (o < 318 ∧ kd o = 5) <| bd (up2 G o 14 s1) fun G2 => gd (a2 = 0 ∨ a2 = 1) <| bd (up2 I o 15 a2) fun I4 => bd (up2 I4 o 9 0) fun I5 => bd (up2 I5 o 10 0) fun I6 => bd (up2 I6 o 11 0) fun I7 => Option.bind (f_J7_fill_53178 A (o + 10) (-1)) fun A8 => gd ((o + 11) < 318 ∧ kd (o + 11) = 0) <| Option.bind (f_X0_look I7 A8 (o + 11) (G2 o 14) (o + 10) 0 (I7 o 15)) fun I11 => Option.bind (f_X5_addJudged I11 A8 L o 0 0) fun (I13, A14, L15) => gd ((o + 8) < 318 ∧ kd (o + 8) = 11) <| gd (inr 0 (ln (o + 8))) <| bd (up2 A14 (o + 8) 0 (vp_nar .boolean 1)) fun A19 => some (I13, G2, A19, L15)
noncomputable def f_X3_begin (I : Nat → Nat → Int32) (G : Nat → Nat → Nat) (A : Nat → Nat → Int32) (L : Nat → Nat → Int64) (s1 : Nat) (s2 : Nat) (a3 : Int32) : Option (Int32 × (Nat → Nat → Int32) × (Nat → Nat → Nat) × (Nat → Nat → Int32) × (Nat → Nat → Int64)) := bd (up2 G 14 1 s2) fun G1 => bd (up2 I 14 2 a3) fun I2 => bd (up2 I2 14 3 0) fun I3 => gd ((G1 14 1) < 318 ∧ kd (G1 14 1) = 4) <| Option.bind (f_J7_fill_53178 A (G1 14 1 + 3) 0) fun A5 => Option.bind (f_J7_fill_53178 A5 15 (-1)) fun A7 => Option.bind (f_J7_fill_53178 A7 16 0) fun A9 => gd ((G1 14 0) < 318 ∧ kd (G1 14 0) = 5) <| Option.bind (f_X5_plant I3 G1 A9 L (G1 14 0) s1 1) fun (I12, G13, A14, L15) => gd ((G13 14 0) < 318 ∧ kd (G13 14 0) = 5) <| gd ((G13 14 0 + 3) < 318 ∧ kd (G13 14 0 + 3) = 9) <| gd (inr 0 (ln (G13 14 0 + 3))) <| if (A14 (G13 14 0 + 3) 0) = 0 then (some ((0 : Int32), I12, G13, A14, L15)) else (some ((2 : Int32), I12, G13, A14, L15))
noncomputable def f_X3_pick (I : Nat → Nat → Int32) (G : Nat → Nat → Nat) (A : Nat → Nat → Int32) (L : Nat → Nat → Int64) (a1 : Int32) : Option ((Nat → Nat → Int32)) := gd ((G 14 0) < 318 ∧ kd (G 14 0) = 5) <| bd (fun (z2 : Int32) => bd (fun (z6 : Int32) => if z6 = (-1) then (gd ((G 14 1) < 318 ∧ kd (G 14 1) = 4) <| gd ((G 14 1 + 4) < 318 ∧ kd (G 14 1 + 4) = 8) <| gd (inr a1 (ln (G 14 1 + 4))) <| bd (up2 A (G 14 1 + 4) a1.toNatClampNeg (((A (G 14 1 + 4) a1.toNatClampNeg) + 1))) fun A18 => some A18) else (gd ((G 14 0 + 5) < 318 ∧ kd (G 14 0 + 5) = 9) <| gd (inr z6 (ln (G 14 0 + 5))) <| bd (up2 A (G 14 0 + 5) z6.toNatClampNeg (vp_nar .byte 1)) fun A11 => gd (inr a1 5) <| bd (up2 A11 15 a1.toNatClampNeg z6) fun A13 => bd (up2 A13 16 a1.toNatClampNeg (((A13 16 a1.toNatClampNeg) + 1))) fun A14 => some A14)) fun j7 => if z2 = 0 then (Option.bind (f_X5_nextFree I A L (G 14 0)) fun r20 => j7 r20) else (j7 (-1))) fun j3 => if ((I (G 14 0) 10) - (I (G 14 0) 11)) < 30 then (j3 0) else (j3 1)
noncomputable def f_X3_replace (G : Nat → Nat → Nat) (A : Nat → Nat → Int32) (a1 : Int32) : Option ((Nat → Nat → Int32)) := gd ((G 14 0) < 318 ∧ kd (G 14 0) = 5) <| gd (inr a1 5) <| gd ((G 14 0 + 5) < 318 ∧ kd (G 14 0 + 5) = 9) <| gd (inr (A 15 a1.toNatClampNeg) (ln (G 14 0 + 5))) <| bd (up2 A (G 14 0 + 5) ((A 15 a1.toNatClampNeg).toNatClampNeg) (vp_nar .byte 0)) fun A5 => bd (up2 A5 15 a1.toNatClampNeg ((-1))) fun A6 => gd ((G 14 1) < 318 ∧ kd (G 14 1) = 4) <| gd ((G 14 1 + 5) < 318 ∧ kd (G 14 1 + 5) = 8) <| gd (inr a1 (ln (G 14 1 + 5))) <| bd (up2 A6 (G 14 1 + 5) a1.toNatClampNeg (((A6 (G 14 1 + 5) a1.toNatClampNeg) + 1))) fun A10 => some A10
noncomputable def f_X5_isFull (I : Nat → Nat → Int32) (G : Nat → Nat → Nat) (A : Nat → Nat → Int32) (o : Nat) (a1 : Int32) : Option (Int32) := gd (o < 318 ∧ kd o = 5) <| gd ((o + 2) < 318 ∧ kd (o + 2) = 9) <| gd (inr a1 (ln (o + 2))) <| gd ((G o 14) < 318 ∧ kd (G o 14) = 1) <| if (A (o + 2) a1.toNatClampNeg) < (I (G o 14) 0) then (some (0 : Int32)) else (some (1 : Int32))
noncomputable def f_X3_walkOn_L2 (G : Nat → Nat → Nat) (L : Nat → Nat → Int64) (k5 : (Nat → Nat → Int32) → (Nat → Nat → Int32) → Option (Int32 × (Nat → Nat → Int32) × (Nat → Nat → Int32))) (k8 : (Nat → Nat → Int32) → (Nat → Nat → Int32) → Option (Int32 × (Nat → Nat → Int32) × (Nat → Nat → Int32))) (k11 : (Nat → Nat → Int32) → (Nat → Nat → Int32) → Option (Int32 × (Nat → Nat → Int32) × (Nat → Nat → Int32))) (k14 : (Nat → Nat → Int32) → (Nat → Nat → Int32) → Option (Int32 × (Nat → Nat → Int32) × (Nat → Nat → Int32))) (k17 : (Nat → Nat → Int32) → (Nat → Nat → Int32) → Option (Int32 × (Nat → Nat → Int32) × (Nat → Nat → Int32))) (k20 : (Nat → Nat → Int32) → (Nat → Nat → Int32) → Option (Int32 × (Nat → Nat → Int32) × (Nat → Nat → Int32))) : Nat → (Int32) → (Nat → Nat → Int32) → (Nat → Nat → Int32) → Option (Int32 × (Nat → Nat → Int32) × (Nat → Nat → Int32))
  | 0, _, _, _ => none
  | n + 1, v2, I3, A4 => if v2 < 250 then (gd ((G 14 0) < 318 ∧ kd (G 14 0) = 5) <| Option.bind (f_X5_nextOfWalk I3 A4 L (G 14 0)) fun r25 => if r25 = (-1) then (k5 I3 A4) else (gd ((G 14 0 + 5) < 318 ∧ kd (G 14 0 + 5) = 9) <| gd (inr r25 (ln (G 14 0 + 5))) <| if (A4 (G 14 0 + 5) r25.toNatClampNeg) = 2 then (Option.bind (f_X5_take I3 G A4 (G 14 0) r25) fun (I31, A32) => Option.bind (f_X5_isFull I31 G A32 (G 14 0) r25) fun r34 => if r34 = 0 then (if (I31 (G 14 0) 11) < 250 then (if (I31 (G 14 0) 11) = (I31 14 2) then (k17 I31 A32) else (f_X3_walkOn_L2 G L k5 k8 k11 k14 k17 k20 n (v2 + 1) I31 A32)) else (k14 I31 A32)) else (k11 I31 A32)) else (k8 I3 A4))) else (k20 I3 A4)
noncomputable def f_X3_walkOn (I : Nat → Nat → Int32) (G : Nat → Nat → Nat) (A : Nat → Nat → Int32) (L : Nat → Nat → Int64) : Option (Int32 × (Nat → Nat → Int32) × (Nat → Nat → Int32)) := bd (fun (I6 : Nat → Nat → Int32) (A7 : Nat → Nat → Int32) => some ((2 : Int32), I6, A7)) fun k5 => bd (fun (I9 : Nat → Nat → Int32) (A10 : Nat → Nat → Int32) => some ((0 : Int32), I9, A10)) fun k8 => bd (fun (I12 : Nat → Nat → Int32) (A13 : Nat → Nat → Int32) => some ((1 : Int32), I12, A13)) fun k11 => bd (fun (I15 : Nat → Nat → Int32) (A16 : Nat → Nat → Int32) => some ((4 : Int32), I15, A16)) fun k14 => bd (fun (I18 : Nat → Nat → Int32) (A19 : Nat → Nat → Int32) => some ((3 : Int32), I18, A19)) fun k17 => bd (fun (I21 : Nat → Nat → Int32) (A22 : Nat → Nat → Int32) => some ((0 : Int32), I21, A22)) fun k20 => f_X3_walkOn_L2 G L k5 k8 k11 k14 k17 k20 FU 0 I A
noncomputable def f_X5_shiftOf (a0 : Int32) : Option (Int32) := some (3 * (5 - a0))
noncomputable def f_X5_finish_L85 (o : Nat) (G : Nat → Nat → Nat) (k30 : (Nat → Nat → Int32) → (Nat → Nat → Int32) → (Nat → Nat → Int64) → Option ((Nat → Nat → Int32) × (Nat → Nat → Int32) × (Nat → Nat → Int64))) : Nat → (Int32) → (Int64) → (Int32) → (Nat → Nat → Int32) → (Nat → Nat → Int32) → (Nat → Nat → Int64) → Option ((Nat → Nat → Int32) × (Nat → Nat → Int32) × (Nat → Nat → Int64))
  | 0, _, _, _, _, _, _ => none
  | n + 1, v24, v25, v26, I27, A28, L29 => gd ((G o 14) < 318 ∧ kd (G o 14) = 1) <| gd ((G o 14 + 1) < 318 ∧ kd (G o 14 + 1) = 8) <| gd (inr v26 (ln (G o 14 + 1))) <| if v24 < (A28 (G o 14 + 1) v26.toNatClampNeg) then (if (I27 o 9) < (nI (ln (o + 1))) then (gd ((o + 10) < 318 ∧ kd (o + 10) = 8) <| gd (inr v26 (ln (o + 10))) <| bd (up2 A28 (o + 10) v26.toNatClampNeg v24) fun A41 => gd ((o + 11) < 318 ∧ kd (o + 11) = 0) <| Option.bind (f_X0_look I27 A41 (o + 11) (G o 14) (o + 10) (v26 + 1) (I27 o 15)) fun I43 => Option.bind (f_X5_shiftOf v26) fun r45 => Option.bind (f_X5_addJudged I43 A41 L29 o (v26 + 1) (v25 ||| (((v24 + 1).toInt64) <<< (r45.toInt64 &&& 63)))) fun (I47, A48, L49) => f_X5_finish_L85 o G k30 n (v24 + 1) v25 v26 I47 A48 L49) else (k30 I27 A28 L29)) else (k30 I27 A28 L29)
noncomputable def f_X5_finish (I : Nat → Nat → Int32) (G : Nat → Nat → Nat) (A : Nat → Nat → Int32) (L : Nat → Nat → Int64) (o : Nat) (a1 : Int32) (a2 : Int32) : Option ((Nat → Nat → Int32) × (Nat → Nat → Int32) × (Nat → Nat → Int64)) := gd (o < 318 ∧ kd o = 5) <| gd ((o + 5) < 318 ∧ kd (o + 5) = 9) <| gd (inr a1 (ln (o + 5))) <| bd (up2 A (o + 5) a1.toNatClampNeg (vp_nar .byte 2)) fun A4 => gd ((o + 6) < 318 ∧ kd (o + 6) = 9) <| gd (inr a1 (ln (o + 6))) <| bd (up2 A4 (o + 6) a1.toNatClampNeg (vp_nar .byte a2.toInt8.toInt32)) fun A7 => bd (up2 I o 10 ((I o 10) + 1)) fun I8 => Option.bind (f_X5_isFull I8 G A7 o a1) fun r9 => if r9 = 0 then (gd ((o + 2) < 318 ∧ kd (o + 2) = 9) <| gd (inr a1 (ln (o + 2))) <| gd ((o + 1) < 318 ∧ kd (o + 1) = 12) <| gd (inr a1 (ln (o + 1))) <| Option.bind (f_J7_fill_53178 A7 (o + 10) (-1)) fun A16 => Option.bind (f_X5_copyValues A16 L o a1 (o + 10) 0) fun A18 => gd ((o + 7) < 318 ∧ kd (o + 7) = 10) <| gd (inr a1 (ln (o + 7))) <| bd (up2 A18 (o + 7) a1.toNatClampNeg (vp_nar .short ((I8 o 9).toInt16.toInt32))) fun A22 => bd (fun (I31 : Nat → Nat → Int32) (A32 : Nat → Nat → Int32) (L33 : Nat → Nat → Int64) => some (I31, A32, L33)) fun k30 => f_X5_finish_L85 o G k30 FU 0 ((L (o + 1) a1.toNatClampNeg) &&& 262143) (A7 (o + 2) a1.toNatClampNeg) I8 A22 L) else (some (I8, A7, L))
noncomputable def f_X3_takeTurn (I : Nat → Nat → Int32) (G : Nat → Nat → Nat) (A : Nat → Nat → Int32) (L : Nat → Nat → Int64) : Option (Int32 × (Nat → Nat → Int32) × (Nat → Nat → Int32) × (Nat → Nat → Int64)) := gd ((G 14 1) < 318 ∧ kd (G 14 1) = 4) <| Option.bind (f_X4_whoHasTurn I A (G 14 1) (I 14 3)) fun r2 => bd (up2 I 14 3 ((I 14 3) + 1)) fun I4 => gd (inr r2 5) <| if (A 15 r2.toNatClampNeg) = (-1) then (Option.bind (f_X3_pick I4 G A L r2) fun A29 => Option.bind (f_X3_walkOn I4 G A29 L) fun (r31, I32, A33) => some (r31, I32, A33, L)) else (gd ((G 14 1 + 1) < 318 ∧ kd (G 14 1 + 1) = 8) <| gd (inr r2 (ln (G 14 1 + 1))) <| if (A 16 r2.toNatClampNeg) = (A (G 14 1 + 1) r2.toNatClampNeg) then (Option.bind (f_X3_replace G A r2) fun A23 => Option.bind (f_X3_walkOn I4 G A23 L) fun (r25, I26, A27) => some (r25, I26, A27, L)) else (gd ((G 14 0) < 318 ∧ kd (G 14 0) = 5) <| Option.bind (f_X5_finish I4 G A L (G 14 0) (A 15 r2.toNatClampNeg) r2) fun (I11, A12, L13) => gd ((G 14 1 + 3) < 318 ∧ kd (G 14 1 + 3) = 8) <| gd (inr r2 (ln (G 14 1 + 3))) <| bd (up2 A12 (G 14 1 + 3) r2.toNatClampNeg (((A12 (G 14 1 + 3) r2.toNatClampNeg) + 1))) fun A17 => bd (up2 A17 15 r2.toNatClampNeg ((-1))) fun A18 => Option.bind (f_X3_walkOn I11 G A18 L13) fun (r19, I20, A21) => some (r19, I20, A21, L13)))
noncomputable def f_X6_same_L80 (v9 : Int32) (a1 : Int32) (a2 : Int32) (G32 : Nat → Nat → Nat) (k42 : (Int32) → (Nat → Nat → Int32) → (Nat → Nat → Int32) → (Nat → Nat → Int64) → Option (Int32 × (Nat → Nat → Int32) × (Nat → Nat → Nat) × (Nat → Nat → Int32) × (Nat → Nat → Int64))) : Nat → (Int32) → (Int32) → (Nat → Nat → Int32) → (Nat → Nat → Int32) → (Nat → Nat → Int64) → Option (Int32 × (Nat → Nat → Int32) × (Nat → Nat → Nat) × (Nat → Nat → Int32) × (Nat → Nat → Int64))
  | 0, _, _, _, _, _ => none
  | n + 1, v37, v38, I39, A40, L41 => if v37 < 1000000 then (if v38 = 0 then (Option.bind (f_X3_takeTurn I39 G32 A40 L41) fun (r54, I55, A56, L57) => f_X6_same_L80 v9 a1 a2 G32 k42 n (v37 + 1) r54 I55 A56 L57) else (k42 v38 I39 A40 L41)) else (k42 v38 I39 A40 L41)
noncomputable def f_X6_same_L33 (a1 : Int32) (a2 : Int32) (k14 : (Nat → Nat → Int32) → (Nat → Nat → Nat) → (Nat → Nat → Int32) → (Nat → Nat → Int64) → Option (Int32 × (Nat → Nat → Int32) × (Nat → Nat → Nat) × (Nat → Nat → Int32) × (Nat → Nat → Int64))) : Nat → (Int32) → (Nat → Nat → Int32) → (Nat → Nat → Nat) → (Nat → Nat → Int32) → (Nat → Nat → Int64) → Option (Int32 × (Nat → Nat → Int32) × (Nat → Nat → Nat) × (Nat → Nat → Int32) × (Nat → Nat → Int64))
  | 0, _, _, _, _, _ => none
  | n + 1, v9, I10, G11, A12, L13 => if v9 < 2 then (bd (fun (z24 : Int32) => Option.bind (f_X4_become I10 A12 8 z24) fun (I26, A27) => gd (inr a1 5) <| Option.bind (f_X3_begin I26 G11 A27 L13 (58 + 52 * a1.toNatClampNeg) 8 (I26 0 3)) fun (r30, I31, G32, A33, L34) => bd (fun (v43 : Int32) (I44 : Nat → Nat → Int32) (A45 : Nat → Nat → Int32) (L46 : Nat → Nat → Int64) => if v9 = 0 then (Option.bind (f_X3_sumUp I44 G32 A45 L46 v43 20) fun A50 => f_X6_same_L33 a1 a2 k14 n (v9 + 1) I44 G32 A50 L46) else (Option.bind (f_X3_sumUp I44 G32 A45 L46 v43 21) fun A48 => f_X6_same_L33 a1 a2 k14 n (v9 + 1) I44 G32 A48 L46)) fun k42 => f_X6_same_L80 v9 a1 a2 G32 k42 FU 0 r30 I31 A33 L34) fun j25 => if v9 = 0 then (j25 1) else (j25 a2)) else (k14 I10 G11 A12 L13)
noncomputable def f_X6_same (I : Nat → Nat → Int32) (G : Nat → Nat → Nat) (A : Nat → Nat → Int32) (L : Nat → Nat → Int64) (a1 : Int32) (a2 : Int32) : Option (Int32 × (Nat → Nat → Int32) × (Nat → Nat → Nat) × (Nat → Nat → Int32) × (Nat → Nat → Int64)) := Option.bind (f_X6_isProblem I a1) fun r1 => if r1 = 0 then (some (((-1) : Int32), I, G, A, L)) else (Option.bind (f_X6_isWithin a2 1 5) fun r4 => if r4 = 0 then (some (((-1) : Int32), I, G, A, L)) else (if (I 0 5) = (-9) then (bd (fun (I15 : Nat → Nat → Int32) (G16 : Nat → Nat → Nat) (A17 : Nat → Nat → Int32) (L18 : Nat → Nat → Int64) => Option.bind (f_X6_isSameOutcome A17) fun r19 => Option.bind (f_X6_asNumber r19) fun r21 => some (r21, I15, G16, A17, L18)) fun k14 => f_X6_same_L33 a1 a2 k14 FU 0 I G A L) else (some (((-2) : Int32), I, G, A, L))))
noncomputable def f_X6_second_L50 (G11 : Nat → Nat → Nat) (k21 : (Nat → Nat → Int32) → (Nat → Nat → Int32) → (Nat → Nat → Int64) → Option (Int32 × (Nat → Nat → Int32) × (Nat → Nat → Nat) × (Nat → Nat → Int32) × (Nat → Nat → Int64))) (k25 : (Int32) → (Nat → Nat → Int32) → (Nat → Nat → Int32) → (Nat → Nat → Int64) → Option (Int32 × (Nat → Nat → Int32) × (Nat → Nat → Nat) × (Nat → Nat → Int32) × (Nat → Nat → Int64))) (k34 : (Nat → Nat → Int32) → (Nat → Nat → Int32) → (Nat → Nat → Int64) → Option (Int32 × (Nat → Nat → Int32) × (Nat → Nat → Nat) × (Nat → Nat → Int32) × (Nat → Nat → Int64))) : Nat → (Int32) → (Int32) → (Nat → Nat → Int32) → (Nat → Nat → Int32) → (Nat → Nat → Int64) → Option (Int32 × (Nat → Nat → Int32) × (Nat → Nat → Nat) × (Nat → Nat → Int32) × (Nat → Nat → Int64))
  | 0, _, _, _, _, _ => none
  | n + 1, v16, v17, I18, A19, L20 => if v16 < 250 then (Option.bind (f_X5_nextOfWalk I18 A19 L20 46) fun r42 => if r42 = (-1) then (k21 I18 A19 L20) else (Option.bind (f_X5_finish I18 G11 A19 L20 46 r42 0) fun (I45, A46, L47) => Option.bind (f_X5_take I45 G11 A46 46 r42) fun (I49, A50) => Option.bind (f_X5_isFull I49 G11 A50 46 r42) fun r52 => if r52 = 0 then (f_X6_second_L50 G11 k21 k25 k34 n (v16 + 1) v17 I49 A50 L47) else (if v17 = 0 then (k25 r42 I49 A50 L47) else (f_X6_second_L50 G11 k21 k25 k34 n (v16 + 1) (v17 + (-1)) I49 A50 L47)))) else (k34 I18 A19 L20)
noncomputable def f_X6_second (I : Nat → Nat → Int32) (G : Nat → Nat → Nat) (A : Nat → Nat → Int32) (L : Nat → Nat → Int64) (a1 : Int32) (a2 : Int32) : Option (Int32 × (Nat → Nat → Int32) × (Nat → Nat → Nat) × (Nat → Nat → Int32) × (Nat → Nat → Int64)) := Option.bind (f_X6_isProblem I a1) fun r1 => if r1 = 0 then (some (((-1000002) : Int32), I, G, A, L)) else (Option.bind (f_X6_isWithin a2 0 60) fun r4 => if r4 = 0 then (some (((-1000002) : Int32), I, G, A, L)) else (Option.bind (f_J7_fill_53178 A 19 (-9)) fun A7 => gd (inr a1 5) <| Option.bind (f_X5_plant I G A7 L 46 (58 + 52 * a1.toNatClampNeg) 0) fun (I10, G11, A12, L13) => bd (fun (I22 : Nat → Nat → Int32) (A23 : Nat → Nat → Int32) (L24 : Nat → Nat → Int64) => some (((-1000000) : Int32), I22, G11, A23, L24)) fun k21 => bd (fun (v26 : Int32) (I27 : Nat → Nat → Int32) (A28 : Nat → Nat → Int32) (L29 : Nat → Nat → Int64) => Option.bind (f_X5_copyValues A28 L29 46 v26 19 0) fun A30 => Option.bind (f_X5_boundOf L29 46 v26) fun r32 => some (r32, I27, G11, A30, L29)) fun k25 => bd (fun (I35 : Nat → Nat → Int32) (A36 : Nat → Nat → Int32) (L37 : Nat → Nat → Int64) => Option.bind (f_X5_nextOfWalk I35 A36 L37 46) fun r38 => if r38 = (-1) then (some (((-1000000) : Int32), I35, G11, A36, L37)) else (some (((-1000001) : Int32), I35, G11, A36, L37))) fun k34 => f_X6_second_L50 G11 k21 k25 k34 FU 0 a2 I10 A12 L13))
noncomputable def f_X6_solve_L82 (a2 : Int32) (G19 : Nat → Nat → Nat) (k29 : (Int32) → (Nat → Nat → Int32) → (Nat → Nat → Int32) → (Nat → Nat → Int64) → Option (Int32 × (Nat → Nat → Int32) × (Nat → Nat → Nat) × (Nat → Nat → Int32) × (Nat → Nat → Int64))) : Nat → (Int32) → (Int32) → (Nat → Nat → Int32) → (Nat → Nat → Int32) → (Nat → Nat → Int64) → Option (Int32 × (Nat → Nat → Int32) × (Nat → Nat → Nat) × (Nat → Nat → Int32) × (Nat → Nat → Int64))
  | 0, _, _, _, _, _ => none
  | n + 1, v24, v25, I26, A27, L28 => if v24 < a2 then (if v25 = 0 then (Option.bind (f_X3_takeTurn I26 G19 A27 L28) fun (r41, I42, A43, L44) => f_X6_solve_L82 a2 G19 k29 n (v24 + 1) r41 I42 A43 L44) else (k29 v25 I26 A27 L28)) else (k29 v25 I26 A27 L28)
noncomputable def f_X6_solve (I : Nat → Nat → Int32) (G : Nat → Nat → Nat) (A : Nat → Nat → Int32) (L : Nat → Nat → Int64) (a1 : Int32) (a2 : Int32) : Option (Int32 × (Nat → Nat → Int32) × (Nat → Nat → Nat) × (Nat → Nat → Int32) × (Nat → Nat → Int64)) := Option.bind (f_X6_isProblem I a1) fun r1 => if r1 = 0 then (some (((-1) : Int32), I, G, A, L)) else (Option.bind (f_X6_isWithin a2 1 500) fun r4 => if r4 = 0 then (some (((-1) : Int32), I, G, A, L)) else (bd (fun (_ : Unit) => bd (fun (v17 : Int32) (I18 : Nat → Nat → Int32) (G19 : Nat → Nat → Nat) (A20 : Nat → Nat → Int32) (L21 : Nat → Nat → Int64) => bd (fun (v30 : Int32) (I31 : Nat → Nat → Int32) (A32 : Nat → Nat → Int32) (L33 : Nat → Nat → Int64) => if v30 = 0 then (some (v30, I31, G19, A32, L33)) else (Option.bind (f_X6_endSolving I31 G19 A32 L33 v30) fun (I35, G36, A37) => some (v30, I35, G36, A37, L33))) fun k29 => f_X6_solve_L82 a2 G19 k29 FU 0 v17 I18 A20 L21) fun j22 => if (I 0 5) = (-9) then (bd (up2 I 0 5 a1) fun I47 => gd (inr a1 5) <| Option.bind (f_X3_begin I47 G A L (58 + 52 * a1.toNatClampNeg) 2 (I47 0 3)) fun (r49, I50, G51, A52, L53) => j22 r49 I50 G51 A52 L53) else (j22 0 I G A L)) fun j8 => if (I 0 5) = (-9) then (j8 ()) else (if (I 0 5) = a1 then (j8 ()) else (some (((-2) : Int32), I, G, A, L)))))
noncomputable def f_X6_status (I : Nat → Nat → Int32) : Option (Int32) := some (I 0 17)
noncomputable def f_X6_told (I : Nat → Nat → Int32) (A : Nat → Nat → Int32) (a1 : Int32) (a2 : Int32) : Option (Int32) := Option.bind (f_X6_isProblem I a1) fun r1 => if r1 = 0 then (some ((-1) : Int32)) else (Option.bind (f_X6_isWithin a2 0 5) fun r4 => if r4 = 0 then (some ((-1) : Int32)) else (gd (inr a1 5) <| gd ((58 + 52 * a1.toNatClampNeg) < 318 ∧ kd (58 + 52 * a1.toNatClampNeg) = 1) <| if (I (58 + 52 * a1.toNatClampNeg) 3) = 0 then (some ((-9) : Int32)) else (gd ((58 + 52 * a1.toNatClampNeg + 11) < 318 ∧ kd (58 + 52 * a1.toNatClampNeg + 11) = 8) <| gd (inr a2 (ln (58 + 52 * a1.toNatClampNeg + 11))) <| some (A (58 + 52 * a1.toNatClampNeg + 11) a2.toNatClampNeg))))
noncomputable def f_X6_turn (I : Nat → Nat → Int32) (A : Nat → Nat → Int32) (a1 : Int32) : Option (Int32 × (Nat → Nat → Int32) × (Nat → Nat → Int32)) := Option.bind (f_X6_isWithin a1 0 4) fun r1 => if r1 = 0 then (some (((-1) : Int32), I, A)) else (if (I 0 5) = (-9) then (if (I 2 1) < 200 then (gd (inr (I 2 1) 200) <| bd (up2 A 4 ((I 2 1).toNatClampNeg) a1) fun A7 => bd (up2 I 2 1 ((I 2 1) + 1)) fun I8 => some ((I8 2 1), I8, A7)) else (some (((-3) : Int32), I, A))) else (some (((-2) : Int32), I, A)))
noncomputable def f_X1_addVariable (I : Nat → Nat → Int32) (A : Nat → Nat → Int32) (o : Nat) (a1 : Int32) (a2 : Int32) : Option (Int32 × (Nat → Nat → Int32) × (Nat → Nat → Int32)) := gd (o < 318 ∧ kd o = 1) <| Option.bind (f_X1_change I o) fun I2 => gd ((o + 1) < 318 ∧ kd (o + 1) = 8) <| gd (inr (I2 o 0) (ln (o + 1))) <| bd (up2 A (o + 1) ((I2 o 0).toNatClampNeg) a1) fun A6 => gd ((o + 2) < 318 ∧ kd (o + 2) = 8) <| gd (inr (I2 o 0) (ln (o + 2))) <| bd (up2 A6 (o + 2) ((I2 o 0).toNatClampNeg) a2) fun A9 => bd (up2 I2 o 0 ((I2 o 0) + 1)) fun I10 => some ((I2 o 0), I10, A9)
noncomputable def f_X6_variable (I : Nat → Nat → Int32) (A : Nat → Nat → Int32) (a1 : Int32) (a2 : Int32) (a3 : Int32) : Option (Int32 × (Nat → Nat → Int32) × (Nat → Nat → Int32)) := Option.bind (f_X6_isProblem I a1) fun r1 => if r1 = 0 then (some (((-1) : Int32), I, A)) else (Option.bind (f_X6_isWithin a2 1 6) fun r4 => if r4 = 0 then (some (((-1) : Int32), I, A)) else (Option.bind (f_X6_isWithin a3 0 3) fun r7 => if r7 = 0 then (some (((-1) : Int32), I, A)) else (if (I 0 5) = (-9) then (gd (inr a1 5) <| gd ((58 + 52 * a1.toNatClampNeg) < 318 ∧ kd (58 + 52 * a1.toNatClampNeg) = 1) <| if (I (58 + 52 * a1.toNatClampNeg) 0) < 6 then (Option.bind (f_X1_addVariable I A (58 + 52 * a1.toNatClampNeg) a2 a3) fun (r14, I15, A16) => some (r14, I15, A16)) else (some (((-3) : Int32), I, A))) else (some (((-2) : Int32), I, A)))))
noncomputable def f_X5_valueOf (L : Nat → Nat → Int64) (o : Nat) (a1 : Int32) (a2 : Int32) : Option (Int32) := gd (o < 318 ∧ kd o = 5) <| gd ((o + 1) < 318 ∧ kd (o + 1) = 12) <| gd (inr a1 (ln (o + 1))) <| Option.bind (f_X5_shiftOf a2) fun r4 => some (((((L (o + 1) a1.toNatClampNeg) >>> (r4.toInt64 &&& 63)) &&& 7).toInt32) - 1)
noncomputable def f_X6_walked (I : Nat → Nat → Int32) (G : Nat → Nat → Nat) (A : Nat → Nat → Int32) (L : Nat → Nat → Int64) (a1 : Int32) (a2 : Int32) : Option (Int32) := Option.bind (f_X6_isWithin a2 0 9) fun r1 => if r1 = 0 then (some ((-1) : Int32)) else (gd ((G 0 6) < 318 ∧ kd (G 0 6) = 5) <| Option.bind (f_X6_isWithin a1 0 ((I (G 0 6) 11) - 1)) fun r5 => if r5 = 0 then (some ((-9) : Int32)) else (gd ((G 0 6 + 9) < 318 ∧ kd (G 0 6 + 9) = 8) <| gd (inr a1 (ln (G 0 6 + 9))) <| if a2 = 0 then (gd ((G 0 6 + 2) < 318 ∧ kd (G 0 6 + 2) = 9) <| gd (inr (A (G 0 6 + 9) a1.toNatClampNeg) (ln (G 0 6 + 2))) <| some (A (G 0 6 + 2) ((A (G 0 6 + 9) a1.toNatClampNeg).toNatClampNeg))) else if a2 = 1 then (gd ((G 0 6 + 2) < 318 ∧ kd (G 0 6 + 2) = 9) <| gd (inr (A (G 0 6 + 9) a1.toNatClampNeg) (ln (G 0 6 + 2))) <| if (A (G 0 6 + 2) ((A (G 0 6 + 9) a1.toNatClampNeg).toNatClampNeg)) < a2 then (some ((-9) : Int32)) else (Option.bind (f_X5_valueOf L (G 0 6) (A (G 0 6 + 9) a1.toNatClampNeg) (a2 - 1)) fun r16 => some r16)) else if a2 = 2 then (gd ((G 0 6 + 2) < 318 ∧ kd (G 0 6 + 2) = 9) <| gd (inr (A (G 0 6 + 9) a1.toNatClampNeg) (ln (G 0 6 + 2))) <| if (A (G 0 6 + 2) ((A (G 0 6 + 9) a1.toNatClampNeg).toNatClampNeg)) < a2 then (some ((-9) : Int32)) else (Option.bind (f_X5_valueOf L (G 0 6) (A (G 0 6 + 9) a1.toNatClampNeg) (a2 - 1)) fun r21 => some r21)) else if a2 = 3 then (gd ((G 0 6 + 2) < 318 ∧ kd (G 0 6 + 2) = 9) <| gd (inr (A (G 0 6 + 9) a1.toNatClampNeg) (ln (G 0 6 + 2))) <| if (A (G 0 6 + 2) ((A (G 0 6 + 9) a1.toNatClampNeg).toNatClampNeg)) < a2 then (some ((-9) : Int32)) else (Option.bind (f_X5_valueOf L (G 0 6) (A (G 0 6 + 9) a1.toNatClampNeg) (a2 - 1)) fun r26 => some r26)) else if a2 = 4 then (gd ((G 0 6 + 2) < 318 ∧ kd (G 0 6 + 2) = 9) <| gd (inr (A (G 0 6 + 9) a1.toNatClampNeg) (ln (G 0 6 + 2))) <| if (A (G 0 6 + 2) ((A (G 0 6 + 9) a1.toNatClampNeg).toNatClampNeg)) < a2 then (some ((-9) : Int32)) else (Option.bind (f_X5_valueOf L (G 0 6) (A (G 0 6 + 9) a1.toNatClampNeg) (a2 - 1)) fun r31 => some r31)) else if a2 = 5 then (gd ((G 0 6 + 2) < 318 ∧ kd (G 0 6 + 2) = 9) <| gd (inr (A (G 0 6 + 9) a1.toNatClampNeg) (ln (G 0 6 + 2))) <| if (A (G 0 6 + 2) ((A (G 0 6 + 9) a1.toNatClampNeg).toNatClampNeg)) < a2 then (some ((-9) : Int32)) else (Option.bind (f_X5_valueOf L (G 0 6) (A (G 0 6 + 9) a1.toNatClampNeg) (a2 - 1)) fun r36 => some r36)) else if a2 = 6 then (gd ((G 0 6 + 2) < 318 ∧ kd (G 0 6 + 2) = 9) <| gd (inr (A (G 0 6 + 9) a1.toNatClampNeg) (ln (G 0 6 + 2))) <| if (A (G 0 6 + 2) ((A (G 0 6 + 9) a1.toNatClampNeg).toNatClampNeg)) < a2 then (some ((-9) : Int32)) else (Option.bind (f_X5_valueOf L (G 0 6) (A (G 0 6 + 9) a1.toNatClampNeg) (a2 - 1)) fun r41 => some r41)) else if a2 = 7 then (Option.bind (f_X5_boundOf L (G 0 6) (A (G 0 6 + 9) a1.toNatClampNeg)) fun r43 => some r43) else if a2 = 8 then (gd ((G 0 6 + 6) < 318 ∧ kd (G 0 6 + 6) = 9) <| gd (inr (A (G 0 6 + 9) a1.toNatClampNeg) (ln (G 0 6 + 6))) <| some (A (G 0 6 + 6) ((A (G 0 6 + 9) a1.toNatClampNeg).toNatClampNeg))) else if a2 = 9 then (Option.bind (f_X5_openBelow G A (G 0 6) (A (G 0 6 + 9) a1.toNatClampNeg)) fun r47 => some r47) else (gd ((G 0 6 + 2) < 318 ∧ kd (G 0 6 + 2) = 9) <| gd (inr (A (G 0 6 + 9) a1.toNatClampNeg) (ln (G 0 6 + 2))) <| if (A (G 0 6 + 2) ((A (G 0 6 + 9) a1.toNatClampNeg).toNatClampNeg)) < a2 then (some ((-9) : Int32)) else (Option.bind (f_X5_valueOf L (G 0 6) (A (G 0 6 + 9) a1.toNatClampNeg) (a2 - 1)) fun r52 => some r52))))
noncomputable def f_X6_with (I : Nat → Nat → Int32) (A : Nat → Nat → Int32) (a1 : Int32) : Option (Int32 × (Nat → Nat → Int32) × (Nat → Nat → Int32)) := if (I 0 7) = (-9) then (some (((-1) : Int32), I, A)) else (gd (inr (I 0 7) 5) <| gd ((58 + 52 * ((I 0 7).toNatClampNeg)) < 318 ∧ kd (58 + 52 * ((I 0 7).toNatClampNeg)) = 1) <| Option.bind (f_X1_hasValue I A (58 + 52 * ((I 0 7).toNatClampNeg)) (I 0 9) a1) fun r4 => if r4 = 0 then (some (((-1) : Int32), I, A)) else (gd (inr (I 0 9) 6) <| bd (up2 A 18 ((I 0 9).toNatClampNeg) a1) fun A8 => bd (up2 I 0 9 ((I 0 9) + 1)) fun I9 => some ((I9 0 9), I9, A8)))

/-! part 47.frr -/
set_option maxHeartbeats 4000000 in
set_option maxRecDepth 100000 in
theorem fr_X7_no (I : Nat → Nat → Int32) (a1 : Int32) (r0 : Int32) (I0 : Nat → Nat → Int32) (h : f_X7_no I a1 = some (r0, I0)) : Fc pR I I0 := by
  have fI : Fc pR I I := Fc_rf
  rw [f_X7_no] at h
  obtain ⟨I1, eI1, h⟩ := bd_e h
  have fI1 : Fc pR I I1 := by rw [eI1]; exact Fc_up fI (show ¬ 318 < 318 by decide)
  cases h; exact fI1
set_option maxHeartbeats 4000000 in
set_option maxRecDepth 100000 in
theorem fr_X7_about (I : Nat → Nat → Int32) (A : Nat → Nat → Int32) (a1 : Int32) (a2 : Int32) (a3 : Int32) (r0 : Int32) (I0 : Nat → Nat → Int32) (h : f_X7_about I A a1 a2 a3 = some (r0, I0)) : Fc pR I I0 := by
  have fI : Fc pR I I := Fc_rf
  have fA : Fc pR A A := Fc_rf
  rw [f_X7_about] at h
  obtain ⟨I1, eI1, h⟩ := bd_e h
  have fI1 : Fc pR I I1 := by rw [eI1]; exact Fc_up fI (show ¬ 318 < 318 by decide)
  obtain ⟨I2, eI2, h⟩ := bd_e h
  have fI2 : Fc pR I I2 := by rw [eI2]; exact Fc_up fI1 (show ¬ 318 < 318 by decide)
  obtain ⟨r3, hc4, h⟩ := Option.bind_eq_some_iff.mp h
  by_cases c_5 : r3 = 0
  · have h := ip c_5 h
    obtain ⟨⟨r6, I7⟩, hc8, h⟩ := Option.bind_eq_some_iff.mp h
    have fI7 : Fc pR I I7 := Fc_tr fI2 (fr_X7_no I2 (-1) r6 I7 hc8)
    cases h; exact fI7
  · have h := iN c_5 h
    obtain ⟨r9, hc10, h⟩ := Option.bind_eq_some_iff.mp h
    by_cases c_11 : r9 = 0
    · have h := ip c_11 h
      obtain ⟨⟨r38, I39⟩, hc40, h⟩ := Option.bind_eq_some_iff.mp h
      have fI39 : Fc pR I I39 := Fc_tr fI2 (fr_X7_no I2 (-1) r38 I39 hc40)
      cases h; exact fI39
    · have h := iN c_11 h
      by_cases c_12 : a2 = 0
      · have h := ip c_12 h
        obtain ⟨hn37, h⟩ := gk h
        cases h; exact fI2
      · have h := iN c_12 h
        by_cases c_13 : a2 = 1
        · have h := ip c_13 h
          obtain ⟨hn36, h⟩ := gk h
          cases h; exact fI2
        · have h := iN c_13 h
          by_cases c_14 : a2 < 5
          · have h := ip c_14 h
            obtain ⟨r25, hc26, h⟩ := Option.bind_eq_some_iff.mp h
            by_cases c_27 : r25 = 0
            · have h := ip c_27 h
              obtain ⟨⟨r33, I34⟩, hc35, h⟩ := Option.bind_eq_some_iff.mp h
              have fI34 : Fc pR I I34 := Fc_tr fI2 (fr_X7_no I2 (-1) r33 I34 hc35)
              cases h; exact fI34
            · have h := iN c_27 h
              by_cases c_28 : a2 = 2
              · have h := ip c_28 h
                obtain ⟨hn32, h⟩ := gk h
                cases h; exact fI2
              · have h := iN c_28 h
                by_cases c_29 : a2 = 3
                · have h := ip c_29 h
                  obtain ⟨hn31, h⟩ := gk h
                  cases h; exact fI2
                · have h := iN c_29 h
                  obtain ⟨hn30, h⟩ := gk h
                  cases h; exact fI2
          · have h := iN c_14 h
            obtain ⟨hn15, h⟩ := gk h
            obtain ⟨r16, hc17, h⟩ := Option.bind_eq_some_iff.mp h
            by_cases c_18 : r16 = 0
            · have h := ip c_18 h
              obtain ⟨⟨r22, I23⟩, hc24, h⟩ := Option.bind_eq_some_iff.mp h
              have fI23 : Fc pR I I23 := Fc_tr fI2 (fr_X7_no I2 (-1) r22 I23 hc24)
              cases h; exact fI23
            · have h := iN c_18 h
              by_cases c_19 : a2 = 5
              · have h := ip c_19 h
                obtain ⟨hn21, h⟩ := gk h
                cases h; exact fI2
              · have h := iN c_19 h
                obtain ⟨hn20, h⟩ := gk h
                cases h; exact fI2
set_option maxHeartbeats 4000000 in
set_option maxRecDepth 100000 in
theorem fr_X7_addNode (I : Nat → Nat → Int32) (A : Nat → Nat → Int32) (a1 : Int32) (a2 : Int32) (I0 : Nat → Nat → Int32) (A0 : Nat → Nat → Int32) (h : f_X7_addNode I A a1 a2 = some (I0, A0)) : Fc pR I I0 ∧ Fc pR A A0 := by
  have fI : Fc pR I I := Fc_rf
  have fA : Fc pR A A := Fc_rf
  rw [f_X7_addNode] at h
  obtain ⟨I1, eI1, h⟩ := bd_e h
  have fI1 : Fc pR I I1 := by rw [eI1]; exact Fc_up fI (show ¬ 318 < 318 by decide)
  obtain ⟨hn2, h⟩ := gk h
  obtain ⟨A3, eA3, h⟩ := bd_e h
  have fA3 : Fc pR A A3 := by rw [eA3]; exact Fc_up fA (show ¬ 338 < 318 by decide)
  obtain ⟨A4, eA4, h⟩ := bd_e h
  have fA4 : Fc pR A A4 := by rw [eA4]; exact Fc_up fA3 (show ¬ 342 < 318 by decide)
  obtain ⟨A5, eA5, h⟩ := bd_e h
  have fA5 : Fc pR A A5 := by rw [eA5]; exact Fc_up fA4 (show ¬ 341 < 318 by decide)
  obtain ⟨A6, eA6, h⟩ := bd_e h
  have fA6 : Fc pR A A6 := by rw [eA6]; exact Fc_up fA5 (show ¬ 343 < 318 by decide)
  obtain ⟨A7, eA7, h⟩ := bd_e h
  have fA7 : Fc pR A A7 := by rw [eA7]; exact Fc_up fA6 (show ¬ 344 < 318 by decide)
  obtain ⟨A8, eA8, h⟩ := bd_e h
  have fA8 : Fc pR A A8 := by rw [eA8]; exact Fc_up fA7 (show ¬ 345 < 318 by decide)
  obtain ⟨A9, eA9, h⟩ := bd_e h
  have fA9 : Fc pR A A9 := by rw [eA9]; exact Fc_up fA8 (show ¬ 349 < 318 by decide)
  obtain ⟨k15, ek15, h⟩ := bd_e h
  have kk15 : ∀ (v16 : Int32) (v17 : Int32) (A18 : Nat → Nat → Int32), k15 v16 v17 A18 = some (I0, A0) → Fc pR A A18 → Fc pR I I0 ∧ Fc pR A A0 := by
    intro v16 v17 A18 h fA18
    subst ek15
    obtain ⟨hn19, h⟩ := gk h
    obtain ⟨A20, eA20, h⟩ := bd_e h
    have fA20 : Fc pR A A20 := by rw [eA20]; exact Fc_up fA18 (show ¬ 340 < 318 by decide)
    cases h; exact ⟨fI1, fA20⟩
  have lp10 : ∀ (n : Nat) (v11 : Int32) (v12 : Int32) (v13 : Int32) (A14 : Nat → Nat → Int32), f_X7_addNode_L74 a1 I1 k15 n v11 v12 v13 A14 = some (I0, A0) → Fc pR A A14 → Fc pR I I0 ∧ Fc pR A A0 := by
    intro n
    induction n with
    | zero => intro v11 v12 v13 A14 h; exact absurd h (by rw [f_X7_addNode_L74]; exact nofun)
    | succ n ih10 =>
      intro v11 v12 v13 A14 h fA14
      rw [f_X7_addNode_L74] at h
      by_cases c_21 : v11 < 6
      · have h := ip c_21 h
        obtain ⟨j24, ej24, h⟩ := bd_e h
        have kj24 : ∀ (z23 : Int32), j24 z23 = some (I0, A0) → Fc pR I I0 ∧ Fc pR A A0 := by
          intro z23 h
          subst ej24
          obtain ⟨hn25, h⟩ := gk h
          obtain ⟨A26, eA26, h⟩ := bd_e h
          have fA26 : Fc pR A A26 := by rw [eA26]; exact Fc_up fA14 (show ¬ 339 < 318 by decide)
          by_cases c_27 : v11 < a1
          · have h := ip c_27 h
            obtain ⟨hn28, h⟩ := gk h
            exact ih10 (v11 + 1) ((7 * v12) + ((A26 364 v11.toNatClampNeg) + 1)) v13 A26 h fA26
          · have h := iN c_27 h
            exact ih10 (v11 + 1) ((7 * v12) + 0) v13 A26 h fA26
        by_cases c_29 : v11 < a1
        · have h := ip c_29 h
          obtain ⟨hn30, h⟩ := gk h
          exact kj24 (A14 364 v11.toNatClampNeg) h
        · have h := iN c_29 h
          exact kj24 (-9) h
      · have h := iN c_21 h
        exact kk15 v13 v12 A14 h fA14
  exact lp10 FU 0 0 (I 318 29) A9 h fA9
set_option maxHeartbeats 4000000 in
set_option maxRecDepth 100000 in
theorem fr_X7_answer (I : Nat → Nat → Int32) (A : Nat → Nat → Int32) (a1 : Int32) (a2 : Int32) (r0 : Int32) (I0 : Nat → Nat → Int32) (h : f_X7_answer I A a1 a2 = some (r0, I0)) : Fc pR I I0 := by
  have fI : Fc pR I I := Fc_rf
  have fA : Fc pR A A := Fc_rf
  rw [f_X7_answer] at h
  obtain ⟨I1, eI1, h⟩ := bd_e h
  have fI1 : Fc pR I I1 := by rw [eI1]; exact Fc_up fI (show ¬ 318 < 318 by decide)
  obtain ⟨r2, hc3, h⟩ := Option.bind_eq_some_iff.mp h
  by_cases c_4 : r2 = 0
  · have h := ip c_4 h
    cases h; exact fI1
  · have h := iN c_4 h
    obtain ⟨hn5, h⟩ := gk h
    obtain ⟨r6, hc7, h⟩ := Option.bind_eq_some_iff.mp h
    by_cases c_8 : r6 = 0
    · have h := ip c_8 h
      cases h; exact fI1
    · have h := iN c_8 h
      by_cases c_9 : (A 352 a1.toNatClampNeg) = 0
      · have h := ip c_9 h
        cases h; exact fI1
      · have h := iN c_9 h
        obtain ⟨hn10, h⟩ := gk h
        cases h; exact fI1
set_option maxHeartbeats 4000000 in
set_option maxRecDepth 100000 in
theorem fr_X7_swap (A : Nat → Nat → Int32) (s0 : Nat) (s1 : Nat) (A0 : Nat → Nat → Int32) (h : f_X7_swap A s0 s1 = some A0) : Fc pR A A0 := by
  have fA : Fc pR A A := Fc_rf
  rw [f_X7_swap] at h
  obtain ⟨k4, ek4, h⟩ := bd_e h
  have kk4 : ∀ (A5 : Nat → Nat → Int32), k4 A5 = some A0 → Fc pR A A5 → Fc pR A A0 := by
    intro A5 h fA5
    subst ek4
    cases h; exact fA5
  have lp1 : ∀ (n : Nat) (v2 : Int32) (A3 : Nat → Nat → Int32), f_X7_swap_L2 s0 s1 k4 n v2 A3 = some A0 → Fc pR A A3 → Fc pR A A0 := by
    intro n
    induction n with
    | zero => intro v2 A3 h; exact absurd h (by rw [f_X7_swap_L2]; exact nofun)
    | succ n ih1 =>
      intro v2 A3 h fA3
      rw [f_X7_swap_L2] at h
      obtain ⟨hk6, h⟩ := gk h
      by_cases c_7 : v2 < (nI (ln s0))
      · have h := ip c_7 h
        obtain ⟨hn8, h⟩ := gk h
        obtain ⟨hk9, h⟩ := gk h
        obtain ⟨hn10, h⟩ := gk h
        obtain ⟨A11, eA11, h⟩ := bd_e h
        have fA11 : Fc pR A A11 := by rw [eA11]; exact Fc_up fA3 (Nat.not_lt.mpr hk6.1.2)
        obtain ⟨A12, eA12, h⟩ := bd_e h
        have fA12 : Fc pR A A12 := by rw [eA12]; exact Fc_up fA11 (Nat.not_lt.mpr hk9.1.2)
        exact ih1 (v2 + 1) A12 h fA12
      · have h := iN c_7 h
        exact kk4 A3 h fA3
  exact lp1 FU 0 A h fA
set_option maxHeartbeats 4000000 in
set_option maxRecDepth 100000 in
theorem fr_X7_turnRound (A : Nat → Nat → Int32) (s0 : Nat) (s1 : Nat) (A0 : Nat → Nat → Int32) (h : f_X7_turnRound A s0 s1 = some A0) : Fc pR A A0 := by
  have fA : Fc pR A A := Fc_rf
  rw [f_X7_turnRound] at h
  obtain ⟨k4, ek4, h⟩ := bd_e h
  have kk4 : ∀ (A5 : Nat → Nat → Int32), k4 A5 = some A0 → Fc pR A A5 → Fc pR A A0 := by
    intro A5 h fA5
    subst ek4
    cases h; exact fA5
  have lp1 : ∀ (n : Nat) (v2 : Int32) (A3 : Nat → Nat → Int32), f_X7_turnRound_L2 s0 s1 k4 n v2 A3 = some A0 → Fc pR A A3 → Fc pR A A0 := by
    intro n
    induction n with
    | zero => intro v2 A3 h; exact absurd h (by rw [f_X7_turnRound_L2]; exact nofun)
    | succ n ih1 =>
      intro v2 A3 h fA3
      rw [f_X7_turnRound_L2] at h
      obtain ⟨hk6, h⟩ := gk h
      by_cases c_7 : v2 < (nI (ln s0))
      · have h := ip c_7 h
        obtain ⟨hn8, h⟩ := gk h
        obtain ⟨hk9, h⟩ := gk h
        obtain ⟨hn10, h⟩ := gk h
        obtain ⟨A11, eA11, h⟩ := bd_e h
        have fA11 : Fc pR A A11 := by rw [eA11]; exact Fc_up fA3 (Nat.not_lt.mpr hk6.1.2)
        obtain ⟨A12, eA12, h⟩ := bd_e h
        have fA12 : Fc pR A A12 := by rw [eA12]; exact Fc_up fA11 (Nat.not_lt.mpr hk9.1.2)
        exact ih1 (v2 + 1) A12 h fA12
      · have h := iN c_7 h
        exact kk4 A3 h fA3
  exact lp1 FU 0 A h fA
set_option maxHeartbeats 4000000 in
set_option maxRecDepth 100000 in
theorem fr_X7_aside (I : Nat → Nat → Int32) (A : Nat → Nat → Int32) (I0 : Nat → Nat → Int32) (A0 : Nat → Nat → Int32) (h : f_X7_aside I A = some (I0, A0)) : Fc pR I I0 ∧ Fc pR A A0 := by
  have fI : Fc pR I I := Fc_rf
  have fA : Fc pR A A := Fc_rf
  rw [f_X7_aside] at h
  obtain ⟨I1, eI1, h⟩ := bd_e h
  have fI1 : Fc pR I I1 := by rw [eI1]; exact Fc_up fI (show ¬ 318 < 318 by decide)
  obtain ⟨I2, eI2, h⟩ := bd_e h
  have fI2 : Fc pR I I2 := by rw [eI2]; exact Fc_up fI1 (show ¬ 318 < 318 by decide)
  obtain ⟨I3, eI3, h⟩ := bd_e h
  have fI3 : Fc pR I I3 := by rw [eI3]; exact Fc_up fI2 (show ¬ 318 < 318 by decide)
  obtain ⟨A4, eA4, h⟩ := bd_e h
  have fA4 : Fc pR A A4 := by rw [eA4]; exact Fc_up fA (show ¬ 365 < 318 by decide)
  obtain ⟨A5, eA5, h⟩ := bd_e h
  have fA5 : Fc pR A A5 := by rw [eA5]; exact Fc_up fA4 (show ¬ 365 < 318 by decide)
  obtain ⟨A6, eA6, h⟩ := bd_e h
  have fA6 : Fc pR A A6 := by rw [eA6]; exact Fc_up fA5 (show ¬ 365 < 318 by decide)
  obtain ⟨A7, hc8, h⟩ := Option.bind_eq_some_iff.mp h
  have fA7 : Fc pR A A7 := Fc_tr fA6 (fr_X7_swap A6 338 366 A7 hc8)
  obtain ⟨A9, hc10, h⟩ := Option.bind_eq_some_iff.mp h
  have fA9 : Fc pR A A9 := Fc_tr fA7 (fr_X7_swap A7 339 367 A9 hc10)
  obtain ⟨A11, hc12, h⟩ := Option.bind_eq_some_iff.mp h
  have fA11 : Fc pR A A11 := Fc_tr fA9 (fr_X7_swap A9 340 368 A11 hc12)
  obtain ⟨A13, hc14, h⟩ := Option.bind_eq_some_iff.mp h
  have fA13 : Fc pR A A13 := Fc_tr fA11 (fr_X7_swap A11 341 369 A13 hc14)
  obtain ⟨A15, hc16, h⟩ := Option.bind_eq_some_iff.mp h
  have fA15 : Fc pR A A15 := Fc_tr fA13 (fr_X7_swap A13 342 370 A15 hc16)
  obtain ⟨A17, hc18, h⟩ := Option.bind_eq_some_iff.mp h
  have fA17 : Fc pR A A17 := Fc_tr fA15 (fr_X7_swap A15 343 371 A17 hc18)
  obtain ⟨A19, hc20, h⟩ := Option.bind_eq_some_iff.mp h
  have fA19 : Fc pR A A19 := Fc_tr fA17 (fr_X7_turnRound A17 344 372 A19 hc20)
  obtain ⟨A21, hc22, h⟩ := Option.bind_eq_some_iff.mp h
  have fA21 : Fc pR A A21 := Fc_tr fA19 (fr_X7_turnRound A19 345 373 A21 hc22)
  obtain ⟨A23, hc24, h⟩ := Option.bind_eq_some_iff.mp h
  have fA23 : Fc pR A A23 := Fc_tr fA21 (fr_X7_swap A21 346 374 A23 hc24)
  obtain ⟨A25, hc26, h⟩ := Option.bind_eq_some_iff.mp h
  have fA25 : Fc pR A A25 := Fc_tr fA23 (fr_X7_swap A23 347 375 A25 hc26)
  obtain ⟨A27, hc28, h⟩ := Option.bind_eq_some_iff.mp h
  have fA27 : Fc pR A A27 := Fc_tr fA25 (fr_X7_swap A25 348 376 A27 hc28)
  obtain ⟨A29, hc30, h⟩ := Option.bind_eq_some_iff.mp h
  have fA29 : Fc pR A A29 := Fc_tr fA27 (fr_X7_swap A27 349 377 A29 hc30)
  cases h; exact ⟨fI3, fA29⟩
set_option maxHeartbeats 4000000 in
set_option maxRecDepth 100000 in
theorem fr_X7_ask (I : Nat → Nat → Int32) (A : Nat → Nat → Int32) (a1 : Int32) (r0 : Int32) (I0 : Nat → Nat → Int32) (h : f_X7_ask I A a1 = some (r0, I0)) : Fc pR I I0 := by
  have fI : Fc pR I I := Fc_rf
  have fA : Fc pR A A := Fc_rf
  rw [f_X7_ask] at h
  obtain ⟨I1, eI1, h⟩ := bd_e h
  have fI1 : Fc pR I I1 := by rw [eI1]; exact Fc_up fI (show ¬ 318 < 318 by decide)
  obtain ⟨r2, hc3, h⟩ := Option.bind_eq_some_iff.mp h
  by_cases c_4 : r2 = 0
  · have h := ip c_4 h
    cases h; exact fI1
  · have h := iN c_4 h
    obtain ⟨I5, eI5, h⟩ := bd_e h
    have fI5 : Fc pR I I5 := by rw [eI5]; exact Fc_up fI1 (show ¬ 318 < 318 by decide)
    obtain ⟨hn6, h⟩ := gk h
    obtain ⟨I7, eI7, h⟩ := bd_e h
    have fI7 : Fc pR I I7 := by rw [eI7]; exact Fc_up fI5 (show ¬ 318 < 318 by decide)
    obtain ⟨I8, eI8, h⟩ := bd_e h
    have fI8 : Fc pR I I8 := by rw [eI8]; exact Fc_up fI7 (show ¬ 318 < 318 by decide)
    cases h; exact fI8
set_option maxHeartbeats 4000000 in
set_option maxRecDepth 100000 in
theorem fr_X7_isOut (A : Nat → Nat → Int32) (a1 : Int32) (a2 : Int32) (a3 : Int32) (r0 : Int32) (A0 : Nat → Nat → Int32) (h : f_X7_isOut A a1 a2 a3 = some (r0, A0)) : Fc pR A A0 := by
  have fA : Fc pR A A := Fc_rf
  rw [f_X7_isOut] at h
  obtain ⟨hn1, h⟩ := gk h
  obtain ⟨A2, eA2, h⟩ := bd_e h
  have fA2 : Fc pR A A2 := by rw [eA2]; exact Fc_up fA (show ¬ 364 < 318 by decide)
  obtain ⟨r3, hc4, h⟩ := Option.bind_eq_some_iff.mp h
  by_cases c_5 : r3 = (-9)
  · have h := ip c_5 h
    obtain ⟨A6, eA6, h⟩ := bd_e h
    have fA6 : Fc pR A A6 := by rw [eA6]; exact Fc_up fA2 (show ¬ 364 < 318 by decide)
    cases h; exact fA6
  · have h := iN c_5 h
    obtain ⟨A7, eA7, h⟩ := bd_e h
    have fA7 : Fc pR A A7 := by rw [eA7]; exact Fc_up fA2 (show ¬ 364 < 318 by decide)
    cases h; exact fA7
set_option maxHeartbeats 4000000 in
set_option maxRecDepth 100000 in
theorem fr_X7_whatIs (I : Nat → Nat → Int32) (A : Nat → Nat → Int32) (a1 : Int32) (a2 : Int32) (a3 : Int32) (r0 : Int32) (I0 : Nat → Nat → Int32) (A0 : Nat → Nat → Int32) (h : f_X7_whatIs I A a1 a2 a3 = some (r0, I0, A0)) : Fc pR I I0 ∧ Fc pR A A0 := by
  have fI : Fc pR I I := Fc_rf
  have fA : Fc pR A A := Fc_rf
  rw [f_X7_whatIs] at h
  obtain ⟨r1, hc2, h⟩ := Option.bind_eq_some_iff.mp h
  obtain ⟨I3, eI3, h⟩ := bd_e h
  have fI3 : Fc pR I I3 := by rw [eI3]; exact Fc_up fI (show ¬ 318 < 318 by decide)
  by_cases c_4 : (I3 318 64) = (-9)
  · have h := ip c_4 h
    obtain ⟨k7, ek7, h⟩ := bd_e h
    have kk7 : ∀ (v8 : Int32), k7 v8 = some (r0, I0, A0) → Fc pR I I0 ∧ Fc pR A A0 := by
      intro v8 h
      subst ek7
      obtain ⟨I9, eI9, h⟩ := bd_e h
      have fI9 : Fc pR I I9 := by rw [eI9]; exact Fc_up fI3 (show ¬ 318 < 318 by decide)
      cases h; exact ⟨fI9, fA⟩
    obtain ⟨k10, ek10, h⟩ := bd_e h
    have kk10 : ∀ (_ : Unit), k10 () = some (r0, I0, A0) → Fc pR I I0 ∧ Fc pR A A0 := by
      intro _ h
      subst ek10
      obtain ⟨I11, eI11, h⟩ := bd_e h
      have fI11 : Fc pR I I11 := by rw [eI11]; exact Fc_up fI3 (show ¬ 318 < 318 by decide)
      obtain ⟨k16, ek16, h⟩ := bd_e h
      have kk16 : ∀ (v17 : Int32) (I18 : Nat → Nat → Int32) (A19 : Nat → Nat → Int32), k16 v17 I18 A19 = some (r0, I0, A0) → Fc pR I I18 → Fc pR A A19 → Fc pR I I0 ∧ Fc pR A A0 := by
        intro v17 I18 A19 h fI18 fA19
        subst ek16
        obtain ⟨I20, eI20, h⟩ := bd_e h
        have fI20 : Fc pR I I20 := by rw [eI20]; exact Fc_up fI18 (show ¬ 318 < 318 by decide)
        cases h; exact ⟨fI20, fA19⟩
      obtain ⟨k21, ek21, h⟩ := bd_e h
      have kk21 : ∀ (I22 : Nat → Nat → Int32) (A23 : Nat → Nat → Int32), k21 I22 A23 = some (r0, I0, A0) → Fc pR I I22 → Fc pR A A23 → Fc pR I I0 ∧ Fc pR A A0 := by
        intro I22 A23 h fI22 fA23
        subst ek21
        cases h; exact ⟨fI22, fA23⟩
      have lp12 : ∀ (n : Nat) (v13 : Int32) (I14 : Nat → Nat → Int32) (A15 : Nat → Nat → Int32), f_X7_whatIs_L88 a1 a2 k16 k21 n v13 I14 A15 = some (r0, I0, A0) → Fc pR I I14 → Fc pR A A15 → Fc pR I I0 ∧ Fc pR A A0 := by
        intro n
        induction n with
        | zero => intro v13 I14 A15 h; exact absurd h (by rw [f_X7_whatIs_L88]; exact nofun)
        | succ n ih12 =>
          intro v13 I14 A15 h fI14 fA15
          rw [f_X7_whatIs_L88] at h
          obtain ⟨hn24, h⟩ := gk h
          by_cases c_25 : v13 < (A15 319 a1.toNatClampNeg)
          · have h := ip c_25 h
            by_cases c_26 : v13 < a2
            · have h := ip c_26 h
              obtain ⟨hn50, h⟩ := gk h
              obtain ⟨r51, hc52, h⟩ := Option.bind_eq_some_iff.mp h
              obtain ⟨I53, eI53, h⟩ := bd_e h
              have fI53 : Fc pR I I53 := by rw [eI53]; exact Fc_up fI14 (show ¬ 318 < 318 by decide)
              exact ih12 (v13 + 1) I53 A15 h fI53 fA15
            · have h := iN c_26 h
              obtain ⟨k31, ek31, h⟩ := bd_e h
              have kk31 : ∀ (v32 : Int32) (A33 : Nat → Nat → Int32), k31 v32 A33 = some (r0, I0, A0) → Fc pR A A33 → Fc pR I I0 ∧ Fc pR A A0 := by
                intro v32 A33 h fA33
                subst ek31
                by_cases c_34 : v32 = (-9)
                · have h := ip c_34 h
                  exact kk16 v13 I14 A33 h fI14 fA33
                · have h := iN c_34 h
                  obtain ⟨r35, hc36, h⟩ := Option.bind_eq_some_iff.mp h
                  obtain ⟨I37, eI37, h⟩ := bd_e h
                  have fI37 : Fc pR I I37 := by rw [eI37]; exact Fc_up fI14 (show ¬ 318 < 318 by decide)
                  exact ih12 (v13 + 1) I37 A33 h fI37 fA33
              have lp27 : ∀ (n : Nat) (v28 : Int32) (v29 : Int32) (A30 : Nat → Nat → Int32), f_X7_whatIs_L138 v13 a1 a2 I14 k31 n v28 v29 A30 = some (r0, I0, A0) → Fc pR A A30 → Fc pR I I0 ∧ Fc pR A A0 := by
                intro n
                induction n with
                | zero => intro v28 v29 A30 h; exact absurd h (by rw [f_X7_whatIs_L138]; exact nofun)
                | succ n ih27 =>
                  intro v28 v29 A30 h fA30
                  rw [f_X7_whatIs_L138] at h
                  obtain ⟨hn38, h⟩ := gk h
                  by_cases c_39 : v28 < (A30 321 (((6 * a1) + v13).toNatClampNeg))
                  · have h := ip c_39 h
                    obtain ⟨⟨r40, A41⟩, hc42, h⟩ := Option.bind_eq_some_iff.mp h
                    have fA41 : Fc pR A A41 := Fc_tr fA30 (fr_X7_isOut A30 a1 v13 v28 r40 A41 hc42)
                    by_cases c_43 : r40 = 0
                    · have h := ip c_43 h
                      by_cases c_44 : v29 = (-9)
                      · have h := ip c_44 h
                        exact ih27 (v28 + 1) v28 A41 h fA41
                      · have h := iN c_44 h
                        obtain ⟨r45, hc46, h⟩ := Option.bind_eq_some_iff.mp h
                        obtain ⟨r47, hc48, h⟩ := Option.bind_eq_some_iff.mp h
                        by_cases c_49 : r45 < r47
                        · have h := ip c_49 h
                          exact ih27 (v28 + 1) v28 A41 h fA41
                        · have h := iN c_49 h
                          exact ih27 (v28 + 1) v29 A41 h fA41
                    · have h := iN c_43 h
                      exact ih27 (v28 + 1) v29 A41 h fA41
                  · have h := iN c_39 h
                    exact kk31 v29 A30 h fA30
              exact lp27 FU 0 (-9) A15 h fA15
          · have h := iN c_25 h
            exact kk21 I14 A15 h fI14 fA15
      exact lp12 FU 0 I11 A h fI11 fA
    have lp5 : ∀ (n : Nat) (v6 : Int32), f_X7_whatIs_L23 a1 a2 a3 I3 A k7 k10 n v6 = some (r0, I0, A0) → Fc pR I I0 ∧ Fc pR A A0 := by
      intro n
      induction n with
      | zero => intro v6 h; exact absurd h (by rw [f_X7_whatIs_L23]; exact nofun)
      | succ n ih5 =>
        intro v6 h
        rw [f_X7_whatIs_L23] at h
        by_cases c_54 : (v6 + 1) < a2
        · have h := ip c_54 h
          by_cases c_55 : a3 = 0
          · have h := ip c_55 h
            exact kk10 () h
          · have h := iN c_55 h
            obtain ⟨hn56, h⟩ := gk h
            obtain ⟨hn57, h⟩ := gk h
            by_cases c_58 : (A 364 ((a2 - 1).toNatClampNeg)) < (A 364 v6.toNatClampNeg)
            · have h := ip c_58 h
              obtain ⟨r59, hc60, h⟩ := Option.bind_eq_some_iff.mp h
              by_cases c_61 : r59 = 0
              · have h := ip c_61 h
                exact ih5 (v6 + 1) h
              · have h := iN c_61 h
                exact kk7 v6 h
            · have h := iN c_58 h
              exact ih5 (v6 + 1) h
        · have h := iN c_54 h
          exact kk10 () h
    exact lp5 FU 0 h
  · have h := iN c_4 h
    cases h; exact ⟨fI3, fA⟩
set_option maxHeartbeats 4000000 in
set_option maxRecDepth 100000 in
theorem fr_X7_begins (I : Nat → Nat → Int32) (A : Nat → Nat → Int32) (a1 : Int32) (a2 : Int32) (I0 : Nat → Nat → Int32) (A0 : Nat → Nat → Int32) (h : f_X7_begins I A a1 a2 = some (I0, A0)) : Fc pR I I0 ∧ Fc pR A A0 := by
  have fI : Fc pR I I := Fc_rf
  have fA : Fc pR A A := Fc_rf
  rw [f_X7_begins] at h
  obtain ⟨I1, eI1, h⟩ := bd_e h
  have fI1 : Fc pR I I1 := by rw [eI1]; exact Fc_up fI (show ¬ 318 < 318 by decide)
  obtain ⟨I2, eI2, h⟩ := bd_e h
  have fI2 : Fc pR I I2 := by rw [eI2]; exact Fc_up fI1 (show ¬ 318 < 318 by decide)
  obtain ⟨I3, eI3, h⟩ := bd_e h
  have fI3 : Fc pR I I3 := by rw [eI3]; exact Fc_up fI2 (show ¬ 318 < 318 by decide)
  obtain ⟨k7, ek7, h⟩ := bd_e h
  have kk7 : ∀ (A8 : Nat → Nat → Int32), k7 A8 = some (I0, A0) → Fc pR A A8 → Fc pR I I0 ∧ Fc pR A A0 := by
    intro A8 h fA8
    subst ek7
    obtain ⟨⟨r9, I10, A11⟩, hc12, h⟩ := Option.bind_eq_some_iff.mp h
    have fI10 : Fc pR I I10 := Fc_tr fI3 (fr_X7_whatIs I3 A8 a1 0 a2 r9 I10 A11 hc12).1
    have fA11 : Fc pR A A11 := Fc_tr fA8 (fr_X7_whatIs I3 A8 a1 0 a2 r9 I10 A11 hc12).2
    by_cases c_13 : r9 = 0
    · have h := ip c_13 h
      obtain ⟨⟨I14, A15⟩, hc16, h⟩ := Option.bind_eq_some_iff.mp h
      have fI14 : Fc pR I I14 := Fc_tr fI10 (fr_X7_addNode I10 A11 0 (-9) I14 A15 hc16).1
      have fA15 : Fc pR A A15 := Fc_tr fA11 (fr_X7_addNode I10 A11 0 (-9) I14 A15 hc16).2
      cases h; exact ⟨fI14, fA15⟩
    · have h := iN c_13 h
      cases h; exact ⟨fI10, fA11⟩
  have lp4 : ∀ (n : Nat) (v5 : Int32) (A6 : Nat → Nat → Int32), f_X7_begins_L17 a1 a2 I3 k7 n v5 A6 = some (I0, A0) → Fc pR A A6 → Fc pR I I0 ∧ Fc pR A A0 := by
    intro n
    induction n with
    | zero => intro v5 A6 h; exact absurd h (by rw [f_X7_begins_L17]; exact nofun)
    | succ n ih4 =>
      intro v5 A6 h fA6
      rw [f_X7_begins_L17] at h
      by_cases c_17 : v5 < 6
      · have h := ip c_17 h
        obtain ⟨hn18, h⟩ := gk h
        obtain ⟨A19, eA19, h⟩ := bd_e h
        have fA19 : Fc pR A A19 := by rw [eA19]; exact Fc_up fA6 (show ¬ 364 < 318 by decide)
        exact ih4 (v5 + 1) A19 h fA19
      · have h := iN c_17 h
        exact kk7 A6 h fA6
  exact lp4 FU 0 A h fA
set_option maxHeartbeats 4000000 in
set_option maxRecDepth 100000 in
theorem fr_X7_changes (I : Nat → Nat → Int32) (A : Nat → Nat → Int32) (a1 : Int32) (I0 : Nat → Nat → Int32) (A0 : Nat → Nat → Int32) (h : f_X7_changes I A a1 = some (I0, A0)) : Fc pR I I0 ∧ Fc pR A A0 := by
  have fI : Fc pR I I := Fc_rf
  have fA : Fc pR A A := Fc_rf
  rw [f_X7_changes] at h
  obtain ⟨I1, eI1, h⟩ := bd_e h
  have fI1 : Fc pR I I1 := by rw [eI1]; exact Fc_up fI (show ¬ 318 < 318 by decide)
  obtain ⟨hn2, h⟩ := gk h
  obtain ⟨A3, eA3, h⟩ := bd_e h
  have fA3 : Fc pR A A3 := by rw [eA3]; exact Fc_up fA (show ¬ 329 < 318 by decide)
  obtain ⟨A4, eA4, h⟩ := bd_e h
  have fA4 : Fc pR A A4 := by rw [eA4]; exact Fc_up fA3 (show ¬ 351 < 318 by decide)
  obtain ⟨A5, eA5, h⟩ := bd_e h
  have fA5 : Fc pR A A5 := by rw [eA5]; exact Fc_up fA4 (show ¬ 352 < 318 by decide)
  cases h; exact ⟨fI1, fA5⟩
set_option maxHeartbeats 4000000 in
set_option maxRecDepth 100000 in
theorem fr_X7_closed (I : Nat → Nat → Int32) (A : Nat → Nat → Int32) (a1 : Int32) (a2 : Int32) (a3 : Int32) (r0 : Int32) (I0 : Nat → Nat → Int32) (h : f_X7_closed I A a1 a2 a3 = some (r0, I0)) : Fc pR I I0 := by
  have fI : Fc pR I I := Fc_rf
  have fA : Fc pR A A := Fc_rf
  rw [f_X7_closed] at h
  obtain ⟨I1, eI1, h⟩ := bd_e h
  have fI1 : Fc pR I I1 := by rw [eI1]; exact Fc_up fI (show ¬ 318 < 318 by decide)
  obtain ⟨r2, hc3, h⟩ := Option.bind_eq_some_iff.mp h
  by_cases c_4 : r2 = 0
  · have h := ip c_4 h
    cases h; exact fI1
  · have h := iN c_4 h
    obtain ⟨r5, hc6, h⟩ := Option.bind_eq_some_iff.mp h
    by_cases c_7 : r5 = 0
    · have h := ip c_7 h
      cases h; exact fI1
    · have h := iN c_7 h
      obtain ⟨hn8, h⟩ := gk h
      obtain ⟨r9, hc10, h⟩ := Option.bind_eq_some_iff.mp h
      by_cases c_11 : r9 = 0
      · have h := ip c_11 h
        cases h; exact fI1
      · have h := iN c_11 h
        by_cases c_12 : a3 = 0
        · have h := ip c_12 h
          obtain ⟨hn14, h⟩ := gk h
          cases h; exact fI1
        · have h := iN c_12 h
          obtain ⟨hn13, h⟩ := gk h
          cases h; exact fI1
set_option maxHeartbeats 4000000 in
set_option maxRecDepth 100000 in
theorem fr_X7_cost (I : Nat → Nat → Int32) (A : Nat → Nat → Int32) (a1 : Int32) (a2 : Int32) (a3 : Int32) (a4 : Int32) (r0 : Int32) (I0 : Nat → Nat → Int32) (A0 : Nat → Nat → Int32) (h : f_X7_cost I A a1 a2 a3 a4 = some (r0, I0, A0)) : Fc pR I I0 ∧ Fc pR A A0 := by
  have fI : Fc pR I I := Fc_rf
  have fA : Fc pR A A := Fc_rf
  rw [f_X7_cost] at h
  obtain ⟨I1, eI1, h⟩ := bd_e h
  have fI1 : Fc pR I I1 := by rw [eI1]; exact Fc_up fI (show ¬ 318 < 318 by decide)
  obtain ⟨I2, eI2, h⟩ := bd_e h
  have fI2 : Fc pR I I2 := by rw [eI2]; exact Fc_up fI1 (show ¬ 318 < 318 by decide)
  obtain ⟨r3, hc4, h⟩ := Option.bind_eq_some_iff.mp h
  by_cases c_5 : r3 = 0
  · have h := ip c_5 h
    obtain ⟨⟨r6, I7⟩, hc8, h⟩ := Option.bind_eq_some_iff.mp h
    have fI7 : Fc pR I I7 := Fc_tr fI2 (fr_X7_no I2 (-1) r6 I7 hc8)
    cases h; exact ⟨fI7, fA⟩
  · have h := iN c_5 h
    obtain ⟨r9, hc10, h⟩ := Option.bind_eq_some_iff.mp h
    by_cases c_11 : r9 = 0
    · have h := ip c_11 h
      obtain ⟨⟨r29, I30⟩, hc31, h⟩ := Option.bind_eq_some_iff.mp h
      have fI30 : Fc pR I I30 := Fc_tr fI2 (fr_X7_no I2 (-1) r29 I30 hc31)
      cases h; exact ⟨fI30, fA⟩
    · have h := iN c_11 h
      by_cases c_12 : (I2 318 23) = (-9)
      · have h := ip c_12 h
        obtain ⟨hn13, h⟩ := gk h
        obtain ⟨j17, ej17, h⟩ := bd_e h
        have kj17 : ∀ (z16 : Int32), j17 z16 = some (r0, I0, A0) → Fc pR I I0 ∧ Fc pR A A0 := by
          intro z16 h
          subst ej17
          obtain ⟨hn18, h⟩ := gk h
          obtain ⟨A19, eA19, h⟩ := bd_e h
          have fA19 : Fc pR A A19 := by rw [eA19]; exact Fc_up fA (show ¬ 323 < 318 by decide)
          obtain ⟨⟨I20, A21⟩, hc22, h⟩ := Option.bind_eq_some_iff.mp h
          have fI20 : Fc pR I I20 := Fc_tr fI2 (fr_X7_changes I2 A19 a1 I20 A21 hc22).1
          have fA21 : Fc pR A A21 := Fc_tr fA19 (fr_X7_changes I2 A19 a1 I20 A21 hc22).2
          cases h; exact ⟨fI20, fA21⟩
        by_cases c_23 : (A 322 (((6 * a1) + a2).toNatClampNeg)) = 0
        · have h := ip c_23 h
          exact kj17 a4.toInt8.toInt32 h
        · have h := iN c_23 h
          by_cases c_24 : (A 322 (((6 * a1) + a2).toNatClampNeg)) = 1
          · have h := ip c_24 h
            exact kj17 a4.toInt16.toInt32 h
          · have h := iN c_24 h
            by_cases c_25 : (A 322 (((6 * a1) + a2).toNatClampNeg)) = 2
            · have h := ip c_25 h
              exact kj17 (a4 &&& 65535) h
            · have h := iN c_25 h
              exact kj17 a4 h
      · have h := iN c_12 h
        obtain ⟨⟨r26, I27⟩, hc28, h⟩ := Option.bind_eq_some_iff.mp h
        have fI27 : Fc pR I I27 := Fc_tr fI2 (fr_X7_no I2 (-2) r26 I27 hc28)
        cases h; exact ⟨fI27, fA⟩
set_option maxHeartbeats 4000000 in
set_option maxRecDepth 100000 in
theorem fr_X7_costs (I : Nat → Nat → Int32) (A : Nat → Nat → Int32) (a1 : Int32) (a2 : Int32) (a3 : Int32) (r0 : Int32) (I0 : Nat → Nat → Int32) (h : f_X7_costs I A a1 a2 a3 = some (r0, I0)) : Fc pR I I0 := by
  have fI : Fc pR I I := Fc_rf
  have fA : Fc pR A A := Fc_rf
  rw [f_X7_costs] at h
  obtain ⟨I1, eI1, h⟩ := bd_e h
  have fI1 : Fc pR I I1 := by rw [eI1]; exact Fc_up fI (show ¬ 318 < 318 by decide)
  obtain ⟨I2, eI2, h⟩ := bd_e h
  have fI2 : Fc pR I I2 := by rw [eI2]; exact Fc_up fI1 (show ¬ 318 < 318 by decide)
  obtain ⟨r3, hc4, h⟩ := Option.bind_eq_some_iff.mp h
  by_cases c_5 : r3 = 0
  · have h := ip c_5 h
    obtain ⟨⟨r6, I7⟩, hc8, h⟩ := Option.bind_eq_some_iff.mp h
    have fI7 : Fc pR I I7 := Fc_tr fI2 (fr_X7_no I2 (-1) r6 I7 hc8)
    cases h; exact fI7
  · have h := iN c_5 h
    obtain ⟨r9, hc10, h⟩ := Option.bind_eq_some_iff.mp h
    cases h; exact fI2
set_option maxHeartbeats 4000000 in
set_option maxRecDepth 100000 in
theorem fr_X7_count (I : Nat → Nat → Int32) (a1 : Int32) (r0 : Int32) (I0 : Nat → Nat → Int32) (h : f_X7_count I a1 = some (r0, I0)) : Fc pR I I0 := by
  have fI : Fc pR I I := Fc_rf
  rw [f_X7_count] at h
  obtain ⟨I1, eI1, h⟩ := bd_e h
  have fI1 : Fc pR I I1 := by rw [eI1]; exact Fc_up fI (show ¬ 318 < 318 by decide)
  rcases sw_7 a1 with hs2 | hs2 | hs2 | hs2 | hs2 | hs2 | hs2 | hs2 | hs2
  · have h := ip hs2 h
    cases h; exact fI1
  · have h := iN (by rw [hs2]; decide) h
    have h := ip hs2 h
    cases h; exact fI1
  · have h := iN (by rw [hs2]; decide) h
    have h := iN (by rw [hs2]; decide) h
    have h := ip hs2 h
    cases h; exact fI1
  · have h := iN (by rw [hs2]; decide) h
    have h := iN (by rw [hs2]; decide) h
    have h := iN (by rw [hs2]; decide) h
    have h := ip hs2 h
    cases h; exact fI1
  · have h := iN (by rw [hs2]; decide) h
    have h := iN (by rw [hs2]; decide) h
    have h := iN (by rw [hs2]; decide) h
    have h := iN (by rw [hs2]; decide) h
    have h := ip hs2 h
    cases h; exact fI1
  · have h := iN (by rw [hs2]; decide) h
    have h := iN (by rw [hs2]; decide) h
    have h := iN (by rw [hs2]; decide) h
    have h := iN (by rw [hs2]; decide) h
    have h := iN (by rw [hs2]; decide) h
    have h := ip hs2 h
    by_cases c_3 : (I1 318 23) = (-9)
    · have h := ip c_3 h
      cases h; exact fI1
    · have h := iN c_3 h
      cases h; exact fI1
  · have h := iN (by rw [hs2]; decide) h
    have h := iN (by rw [hs2]; decide) h
    have h := iN (by rw [hs2]; decide) h
    have h := iN (by rw [hs2]; decide) h
    have h := iN (by rw [hs2]; decide) h
    have h := iN (by rw [hs2]; decide) h
    have h := ip hs2 h
    by_cases c_4 : (I1 318 23) = (-9)
    · have h := ip c_4 h
      cases h; exact fI1
    · have h := iN c_4 h
      cases h; exact fI1
  · have h := iN (by rw [hs2]; decide) h
    have h := iN (by rw [hs2]; decide) h
    have h := iN (by rw [hs2]; decide) h
    have h := iN (by rw [hs2]; decide) h
    have h := iN (by rw [hs2]; decide) h
    have h := iN (by rw [hs2]; decide) h
    have h := iN (by rw [hs2]; decide) h
    have h := ip hs2 h
    by_cases c_5 : (I1 318 23) = (-9)
    · have h := ip c_5 h
      cases h; exact fI1
    · have h := iN c_5 h
      cases h; exact fI1
  · have h := iN (fun q => by rw [q] at hs2; exact absurd hs2 (by decide)) h
    have h := iN (fun q => by rw [q] at hs2; exact absurd hs2 (by decide)) h
    have h := iN (fun q => by rw [q] at hs2; exact absurd hs2 (by decide)) h
    have h := iN (fun q => by rw [q] at hs2; exact absurd hs2 (by decide)) h
    have h := iN (fun q => by rw [q] at hs2; exact absurd hs2 (by decide)) h
    have h := iN (fun q => by rw [q] at hs2; exact absurd hs2 (by decide)) h
    have h := iN (fun q => by rw [q] at hs2; exact absurd hs2 (by decide)) h
    have h := iN (fun q => by rw [q] at hs2; exact absurd hs2 (by decide)) h
    cases h; exact fI1
set_option maxHeartbeats 4000000 in
set_option maxRecDepth 100000 in
theorem fr_X7_endsAs (I : Nat → Nat → Int32) (A : Nat → Nat → Int32) (a1 : Int32) (a2 : Int32) (I0 : Nat → Nat → Int32) (A0 : Nat → Nat → Int32) (h : f_X7_endsAs I A a1 a2 = some (I0, A0)) : Fc pR I I0 ∧ Fc pR A A0 := by
  have fI : Fc pR I I := Fc_rf
  have fA : Fc pR A A := Fc_rf
  rw [f_X7_endsAs] at h
  obtain ⟨r1, hc2, h⟩ := Option.bind_eq_some_iff.mp h
  obtain ⟨j5, ej5, h⟩ := bd_e h
  have kj5 : ∀ (z4 : Int32), j5 z4 = some (I0, A0) → Fc pR I I0 ∧ Fc pR A A0 := by
    intro z4 h
    subst ej5
    obtain ⟨hn6, h⟩ := gk h
    obtain ⟨A7, eA7, h⟩ := bd_e h
    have fA7 : Fc pR A A7 := by rw [eA7]; exact Fc_up fA (show ¬ 350 < 318 by decide)
    obtain ⟨hn8, h⟩ := gk h
    obtain ⟨A9, eA9, h⟩ := bd_e h
    have fA9 : Fc pR A A9 := by rw [eA9]; exact Fc_up fA7 (show ¬ 350 < 318 by decide)
    obtain ⟨hn10, h⟩ := gk h
    obtain ⟨A11, eA11, h⟩ := bd_e h
    have fA11 : Fc pR A A11 := by rw [eA11]; exact Fc_up fA9 (show ¬ 350 < 318 by decide)
    obtain ⟨hn12, h⟩ := gk h
    obtain ⟨A13, eA13, h⟩ := bd_e h
    have fA13 : Fc pR A A13 := by rw [eA13]; exact Fc_up fA11 (show ¬ 350 < 318 by decide)
    obtain ⟨j16, ej16, h⟩ := bd_e h
    have kj16 : ∀ (z15 : Int32), j16 z15 = some (I0, A0) → Fc pR I I0 ∧ Fc pR A A0 := by
      intro z15 h
      subst ej16
      obtain ⟨hn17, h⟩ := gk h
      obtain ⟨A18, eA18, h⟩ := bd_e h
      have fA18 : Fc pR A A18 := by rw [eA18]; exact Fc_up fA13 (show ¬ 350 < 318 by decide)
      obtain ⟨j23, ej23, h⟩ := bd_e h
      have kj23 : ∀ (z22 : Int32), j23 z22 = some (I0, A0) → Fc pR I I0 ∧ Fc pR A A0 := by
        intro z22 h
        subst ej23
        obtain ⟨hn24, h⟩ := gk h
        obtain ⟨A25, eA25, h⟩ := bd_e h
        have fA25 : Fc pR A A25 := by rw [eA25]; exact Fc_up fA18 (show ¬ 350 < 318 by decide)
        obtain ⟨hn26, h⟩ := gk h
        obtain ⟨A27, eA27, h⟩ := bd_e h
        have fA27 : Fc pR A A27 := by rw [eA27]; exact Fc_up fA25 (show ¬ 351 < 318 by decide)
        obtain ⟨j29, ej29, h⟩ := bd_e h
        have kj29 : ∀ (z28 : Int32), j29 z28 = some (I0, A0) → Fc pR I I0 ∧ Fc pR A A0 := by
          intro z28 h
          subst ej29
          obtain ⟨A30, eA30, h⟩ := bd_e h
          have fA30 : Fc pR A A30 := by rw [eA30]; exact Fc_up fA27 (show ¬ 352 < 318 by decide)
          obtain ⟨j41, ej41, h⟩ := bd_e h
          have kj41 : ∀ (A40 : Nat → Nat → Int32), j41 A40 = some (I0, A0) → Fc pR A A40 → Fc pR I I0 ∧ Fc pR A A0 := by
            intro A40 h fA40
            subst ej41
            obtain ⟨I42, eI42, h⟩ := bd_e h
            have fI42 : Fc pR I I42 := by rw [eI42]; exact Fc_up fI (show ¬ 318 < 318 by decide)
            obtain ⟨k46, ek46, h⟩ := bd_e h
            have kk46 : ∀ (A47 : Nat → Nat → Int32), k46 A47 = some (I0, A0) → Fc pR A A47 → Fc pR I I0 ∧ Fc pR A A0 := by
              intro A47 h fA47
              subst ek46
              obtain ⟨I48, eI48, h⟩ := bd_e h
              have fI48 : Fc pR I I48 := by rw [eI48]; exact Fc_up fI42 (show ¬ 318 < 318 by decide)
              cases h; exact ⟨fI48, fA47⟩
            have lp43 : ∀ (n : Nat) (v44 : Int32) (A45 : Nat → Nat → Int32), f_X7_endsAs_L236 a1 I42 k46 n v44 A45 = some (I0, A0) → Fc pR A A45 → Fc pR I I0 ∧ Fc pR A A0 := by
              intro n
              induction n with
              | zero => intro v44 A45 h; exact absurd h (by rw [f_X7_endsAs_L236]; exact nofun)
              | succ n ih43 =>
                intro v44 A45 h fA45
                rw [f_X7_endsAs_L236] at h
                by_cases c_49 : v44 < (I42 318 31)
                · have h := ip c_49 h
                  obtain ⟨hn50, h⟩ := gk h
                  obtain ⟨hn51, h⟩ := gk h
                  obtain ⟨A52, eA52, h⟩ := bd_e h
                  have fA52 : Fc pR A A52 := by rw [eA52]; exact Fc_up fA45 (show ¬ 354 < 318 by decide)
                  obtain ⟨A53, eA53, h⟩ := bd_e h
                  have fA53 : Fc pR A A53 := by rw [eA53]; exact Fc_up fA52 (show ¬ 356 < 318 by decide)
                  obtain ⟨A54, eA54, h⟩ := bd_e h
                  have fA54 : Fc pR A A54 := by rw [eA54]; exact Fc_up fA53 (show ¬ 357 < 318 by decide)
                  obtain ⟨A55, eA55, h⟩ := bd_e h
                  have fA55 : Fc pR A A55 := by rw [eA55]; exact Fc_up fA54 (show ¬ 358 < 318 by decide)
                  obtain ⟨j58, ej58, h⟩ := bd_e h
                  have kj58 : ∀ (z57 : Int32), j58 z57 = some (I0, A0) → Fc pR I I0 ∧ Fc pR A A0 := by
                    intro z57 h
                    subst ej58
                    obtain ⟨A59, eA59, h⟩ := bd_e h
                    have fA59 : Fc pR A A59 := by rw [eA59]; exact Fc_up fA55 (show ¬ 359 < 318 by decide)
                    obtain ⟨k64, ek64, h⟩ := bd_e h
                    have kk64 : ∀ (A65 : Nat → Nat → Int32), k64 A65 = some (I0, A0) → Fc pR A A65 → Fc pR I I0 ∧ Fc pR A A0 := by
                      intro A65 h fA65
                      subst ek64
                      exact ih43 (v44 + 1) A65 h fA65
                    have lp60 : ∀ (n : Nat) (v61 : Int32) (v62 : Int32) (A63 : Nat → Nat → Int32), f_X7_endsAs_L357 v44 a1 I42 k64 n v61 v62 A63 = some (I0, A0) → Fc pR A A63 → Fc pR I I0 ∧ Fc pR A A0 := by
                      intro n
                      induction n with
                      | zero => intro v61 v62 A63 h; exact absurd h (by rw [f_X7_endsAs_L357]; exact nofun)
                      | succ n ih60 =>
                        intro v61 v62 A63 h fA63
                        rw [f_X7_endsAs_L357] at h
                        by_cases c_66 : v61 < 6
                        · have h := ip c_66 h
                          obtain ⟨hn67, h⟩ := gk h
                          obtain ⟨hn68, h⟩ := gk h
                          obtain ⟨A69, eA69, h⟩ := bd_e h
                          have fA69 : Fc pR A A69 := by rw [eA69]; exact Fc_up fA63 (show ¬ 355 < 318 by decide)
                          obtain ⟨A70, eA70, h⟩ := bd_e h
                          have fA70 : Fc pR A A70 := by rw [eA70]; exact Fc_up fA69 (show ¬ 360 < 318 by decide)
                          obtain ⟨A71, eA71, h⟩ := bd_e h
                          have fA71 : Fc pR A A71 := by rw [eA71]; exact Fc_up fA70 (show ¬ 361 < 318 by decide)
                          exact ih60 (v61 + 1) v62 A71 h fA71
                        · have h := iN c_66 h
                          exact kk64 A63 h fA63
                    exact lp60 FU 0 (A45 346 v44.toNatClampNeg) A59 h fA59
                  by_cases c_72 : (A55 338 ((A45 346 v44.toNatClampNeg).toNatClampNeg)) < (A55 319 a1.toNatClampNeg)
                  · have h := ip c_72 h
                    obtain ⟨hn73, h⟩ := gk h
                    exact kj58 (A55 321 (((6 * a1) + (A55 338 ((A45 346 v44.toNatClampNeg).toNatClampNeg))).toNatClampNeg)) h
                  · have h := iN c_72 h
                    exact kj58 0 h
                · have h := iN c_49 h
                  exact kk46 A45 h fA45
            exact lp43 FU 0 A40 h fA40
          by_cases c_74 : a2 = 1
          · have h := ip c_74 h
            obtain ⟨k78, ek78, h⟩ := bd_e h
            have kk78 : ∀ (A79 : Nat → Nat → Int32), k78 A79 = some (I0, A0) → Fc pR A A79 → Fc pR I I0 ∧ Fc pR A A0 := by
              intro A79 h fA79
              subst ek78
              exact kj41 A79 h fA79
            have lp75 : ∀ (n : Nat) (v76 : Int32) (A77 : Nat → Nat → Int32), f_X7_endsAs_L187 z4 a1 I k78 n v76 A77 = some (I0, A0) → Fc pR A A77 → Fc pR I I0 ∧ Fc pR A A0 := by
              intro n
              induction n with
              | zero => intro v76 A77 h; exact absurd h (by rw [f_X7_endsAs_L187]; exact nofun)
              | succ n ih75 =>
                intro v76 A77 h fA77
                rw [f_X7_endsAs_L187] at h
                by_cases c_80 : v76 < 6
                · have h := ip c_80 h
                  obtain ⟨hn81, h⟩ := gk h
                  obtain ⟨hn82, h⟩ := gk h
                  obtain ⟨A83, eA83, h⟩ := bd_e h
                  have fA83 : Fc pR A A83 := by rw [eA83]; exact Fc_up fA77 (show ¬ 353 < 318 by decide)
                  exact ih75 (v76 + 1) A83 h fA83
                · have h := iN c_80 h
                  exact kk78 A77 h fA77
            exact lp75 FU 0 A30 h fA30
          · have h := iN c_74 h
            exact kj41 A30 h fA30
        by_cases c_84 : a2 = 1
        · have h := ip c_84 h
          exact kj29 1 h
        · have h := iN c_84 h
          exact kj29 0 h
      by_cases c_85 : a2 = 1
      · have h := ip c_85 h
        obtain ⟨hn88, h⟩ := gk h
        exact kj23 (A18 341 z4.toNatClampNeg) h
      · have h := iN c_85 h
        by_cases c_86 : r1 = (-9)
        · have h := ip c_86 h
          exact kj23 (-1000000) h
        · have h := iN c_86 h
          obtain ⟨hn87, h⟩ := gk h
          exact kj23 (A18 341 r1.toNatClampNeg) h
    by_cases c_89 : a2 = 1
    · have h := ip c_89 h
      obtain ⟨hn90, h⟩ := gk h
      exact kj16 (A13 341 z4.toNatClampNeg) h
    · have h := iN c_89 h
      exact kj16 (-1000000) h
  by_cases c_91 : 0 < (I 318 31)
  · have h := ip c_91 h
    obtain ⟨hn92, h⟩ := gk h
    exact kj5 (A 346 (((I 318 31) - 1).toNatClampNeg)) h
  · have h := iN c_91 h
    exact kj5 (-9) h
set_option maxHeartbeats 4000000 in
set_option maxRecDepth 100000 in
theorem fr_X7_fail (I : Nat → Nat → Int32) (A : Nat → Nat → Int32) (a1 : Int32) (a2 : Int32) (r0 : Int32) (I0 : Nat → Nat → Int32) (A0 : Nat → Nat → Int32) (h : f_X7_fail I A a1 a2 = some (r0, I0, A0)) : Fc pR I I0 ∧ Fc pR A A0 := by
  have fI : Fc pR I I := Fc_rf
  have fA : Fc pR A A := Fc_rf
  rw [f_X7_fail] at h
  obtain ⟨I1, eI1, h⟩ := bd_e h
  have fI1 : Fc pR I I1 := by rw [eI1]; exact Fc_up fI (show ¬ 318 < 318 by decide)
  obtain ⟨r2, hc3, h⟩ := Option.bind_eq_some_iff.mp h
  by_cases c_4 : r2 = 0
  · have h := ip c_4 h
    cases h; exact ⟨fI1, fA⟩
  · have h := iN c_4 h
    obtain ⟨r5, hc6, h⟩ := Option.bind_eq_some_iff.mp h
    by_cases c_7 : r5 = 0
    · have h := ip c_7 h
      cases h; exact ⟨fI1, fA⟩
    · have h := iN c_7 h
      by_cases c_8 : (I1 318 23) = (-9)
      · have h := ip c_8 h
        obtain ⟨hn9, h⟩ := gk h
        obtain ⟨A10, eA10, h⟩ := bd_e h
        have fA10 : Fc pR A A10 := by rw [eA10]; exact Fc_up fA (show ¬ 330 < 318 by decide)
        cases h; exact ⟨fI1, fA10⟩
      · have h := iN c_8 h
        cases h; exact ⟨fI1, fA⟩
set_option maxHeartbeats 4000000 in
set_option maxRecDepth 100000 in
theorem fr_X7_giveUp (I : Nat → Nat → Int32) (r0 : Int32) (I0 : Nat → Nat → Int32) (h : f_X7_giveUp I = some (r0, I0)) : Fc pR I I0 := by
  have fI : Fc pR I I := Fc_rf
  rw [f_X7_giveUp] at h
  obtain ⟨I1, eI1, h⟩ := bd_e h
  have fI1 : Fc pR I I1 := by rw [eI1]; exact Fc_up fI (show ¬ 318 < 318 by decide)
  by_cases c_2 : (I1 318 23) = (-9)
  · have h := ip c_2 h
    cases h; exact fI1
  · have h := iN c_2 h
    obtain ⟨I3, eI3, h⟩ := bd_e h
    have fI3 : Fc pR I I3 := by rw [eI3]; exact Fc_up fI1 (show ¬ 318 < 318 by decide)
    cases h; exact fI3
set_option maxHeartbeats 4000000 in
set_option maxRecDepth 100000 in
theorem fr_X7_helper (I : Nat → Nat → Int32) (A : Nat → Nat → Int32) (a1 : Int32) (a2 : Int32) (r0 : Int32) (I0 : Nat → Nat → Int32) (h : f_X7_helper I A a1 a2 = some (r0, I0)) : Fc pR I I0 := by
  have fI : Fc pR I I := Fc_rf
  have fA : Fc pR A A := Fc_rf
  rw [f_X7_helper] at h
  obtain ⟨I1, eI1, h⟩ := bd_e h
  have fI1 : Fc pR I I1 := by rw [eI1]; exact Fc_up fI (show ¬ 318 < 318 by decide)
  obtain ⟨r2, hc3, h⟩ := Option.bind_eq_some_iff.mp h
  by_cases c_4 : r2 = 0
  · have h := ip c_4 h
    cases h; exact fI1
  · have h := iN c_4 h
    obtain ⟨r5, hc6, h⟩ := Option.bind_eq_some_iff.mp h
    by_cases c_7 : r5 = 0
    · have h := ip c_7 h
      cases h; exact fI1
    · have h := iN c_7 h
      by_cases c_8 : a2 = 0
      · have h := ip c_8 h
        obtain ⟨hn12, h⟩ := gk h
        cases h; exact fI1
      · have h := iN c_8 h
        by_cases c_9 : a2 = 1
        · have h := ip c_9 h
          obtain ⟨hn11, h⟩ := gk h
          cases h; exact fI1
        · have h := iN c_9 h
          obtain ⟨hn10, h⟩ := gk h
          cases h; exact fI1
set_option maxHeartbeats 4000000 in
set_option maxRecDepth 100000 in
theorem fr_X7_helpers (I : Nat → Nat → Int32) (A : Nat → Nat → Int32) (a1 : Int32) (r0 : Int32) (I0 : Nat → Nat → Int32) (A0 : Nat → Nat → Int32) (h : f_X7_helpers I A a1 = some (r0, I0, A0)) : Fc pR I I0 ∧ Fc pR A A0 := by
  have fI : Fc pR I I := Fc_rf
  have fA : Fc pR A A := Fc_rf
  rw [f_X7_helpers] at h
  obtain ⟨I1, eI1, h⟩ := bd_e h
  have fI1 : Fc pR I I1 := by rw [eI1]; exact Fc_up fI (show ¬ 318 < 318 by decide)
  obtain ⟨r2, hc3, h⟩ := Option.bind_eq_some_iff.mp h
  by_cases c_4 : r2 = 0
  · have h := ip c_4 h
    cases h; exact ⟨fI1, fA⟩
  · have h := iN c_4 h
    by_cases c_5 : (I1 318 23) = (-9)
    · have h := ip c_5 h
      obtain ⟨I6, eI6, h⟩ := bd_e h
      have fI6 : Fc pR I I6 := by rw [eI6]; exact Fc_up fI1 (show ¬ 318 < 318 by decide)
      obtain ⟨k11, ek11, h⟩ := bd_e h
      have kk11 : ∀ (v12 : Int32) (A13 : Nat → Nat → Int32), k11 v12 A13 = some (r0, I0, A0) → Fc pR A A13 → Fc pR I I0 ∧ Fc pR A A0 := by
        intro v12 A13 h fA13
        subst ek11
        cases h; exact ⟨fI6, fA13⟩
      have lp7 : ∀ (n : Nat) (v8 : Int32) (v9 : Int32) (A10 : Nat → Nat → Int32), f_X7_helpers_L40 I6 k11 n v8 v9 A10 = some (r0, I0, A0) → Fc pR A A10 → Fc pR I I0 ∧ Fc pR A A0 := by
        intro n
        induction n with
        | zero => intro v8 v9 A10 h; exact absurd h (by rw [f_X7_helpers_L40]; exact nofun)
        | succ n ih7 =>
          intro v8 v9 A10 h fA10
          rw [f_X7_helpers_L40] at h
          by_cases c_14 : v8 < 5
          · have h := ip c_14 h
            obtain ⟨hn15, h⟩ := gk h
            obtain ⟨A16, eA16, h⟩ := bd_e h
            have fA16 : Fc pR A A16 := by rw [eA16]; exact Fc_up fA10 (show ¬ 330 < 318 by decide)
            exact ih7 (v8 + 1) v9 A16 h fA16
          · have h := iN c_14 h
            exact kk11 v9 A10 h fA10
      exact lp7 FU 0 (I1 318 15) A h fA
    · have h := iN c_5 h
      cases h; exact ⟨fI1, fA⟩
set_option maxHeartbeats 4000000 in
set_option maxRecDepth 100000 in
theorem fr_X7_limit (I : Nat → Nat → Int32) (a1 : Int32) (r0 : Int32) (I0 : Nat → Nat → Int32) (h : f_X7_limit I a1 = some (r0, I0)) : Fc pR I I0 := by
  have fI : Fc pR I I := Fc_rf
  rw [f_X7_limit] at h
  obtain ⟨I1, eI1, h⟩ := bd_e h
  have fI1 : Fc pR I I1 := by rw [eI1]; exact Fc_up fI (show ¬ 318 < 318 by decide)
  obtain ⟨r2, hc3, h⟩ := Option.bind_eq_some_iff.mp h
  by_cases c_4 : r2 = 0
  · have h := ip c_4 h
    cases h; exact fI1
  · have h := iN c_4 h
    by_cases c_5 : (I1 318 23) = (-9)
    · have h := ip c_5 h
      obtain ⟨I6, eI6, h⟩ := bd_e h
      have fI6 : Fc pR I I6 := by rw [eI6]; exact Fc_up fI1 (show ¬ 318 < 318 by decide)
      cases h; exact fI6
    · have h := iN c_5 h
      cases h; exact fI1
set_option maxHeartbeats 4000000 in
set_option maxRecDepth 100000 in
theorem fr_X7_node (I : Nat → Nat → Int32) (A : Nat → Nat → Int32) (a1 : Int32) (a2 : Int32) (a3 : Int32) (r0 : Int32) (I0 : Nat → Nat → Int32) (A0 : Nat → Nat → Int32) (h : f_X7_node I A a1 a2 a3 = some (r0, I0, A0)) : Fc pR I I0 ∧ Fc pR A A0 := by
  have fI : Fc pR I I := Fc_rf
  have fA : Fc pR A A := Fc_rf
  rw [f_X7_node] at h
  obtain ⟨I1, eI1, h⟩ := bd_e h
  have fI1 : Fc pR I I1 := by rw [eI1]; exact Fc_up fI (show ¬ 318 < 318 by decide)
  obtain ⟨r2, hc3, h⟩ := Option.bind_eq_some_iff.mp h
  by_cases c_4 : r2 = 0
  · have h := ip c_4 h
    cases h; exact ⟨fI1, fA⟩
  · have h := iN c_4 h
    by_cases c_5 : (I1 318 57) = (-9)
    · have h := ip c_5 h
      cases h; exact ⟨fI1, fA⟩
    · have h := iN c_5 h
      obtain ⟨hn6, h⟩ := gk h
      by_cases c_7 : (A 329 ((I1 318 57).toNatClampNeg)) = (I1 318 58)
      · have h := ip c_7 h
        obtain ⟨k12, ek12, h⟩ := bd_e h
        have kk12 : ∀ (v13 : Int32) (A14 : Nat → Nat → Int32), k12 v13 A14 = some (r0, I0, A0) → Fc pR A A14 → Fc pR I I0 ∧ Fc pR A A0 := by
          intro v13 A14 h fA14
          subst ek12
          by_cases c_15 : a1 = 0
          · have h := ip c_15 h
            obtain ⟨r33, hc34, h⟩ := Option.bind_eq_some_iff.mp h
            by_cases c_35 : r33 = 0
            · have h := ip c_35 h
              cases h; exact ⟨fI1, fA14⟩
            · have h := iN c_35 h
              obtain ⟨r36, hc37, h⟩ := Option.bind_eq_some_iff.mp h
              by_cases c_38 : r36 = 0
              · have h := ip c_38 h
                cases h; exact ⟨fI1, fA14⟩
              · have h := iN c_38 h
                cases h; exact ⟨fI1, fA14⟩
          · have h := iN c_15 h
            by_cases c_16 : a1 = 1
            · have h := ip c_16 h
              obtain ⟨r25, hc26, h⟩ := Option.bind_eq_some_iff.mp h
              by_cases c_27 : r25 = 0
              · have h := ip c_27 h
                cases h; exact ⟨fI1, fA14⟩
              · have h := iN c_27 h
                by_cases c_28 : a2 < (I1 318 59)
                · have h := ip c_28 h
                  cases h; exact ⟨fI1, fA14⟩
                · have h := iN c_28 h
                  obtain ⟨⟨r29, A30⟩, hc31, h⟩ := Option.bind_eq_some_iff.mp h
                  have fA30 : Fc pR A A30 := Fc_tr fA14 (fr_X7_isOut A14 v13 a2 a3 r29 A30 hc31)
                  by_cases c_32 : r29 = 0
                  · have h := ip c_32 h
                    cases h; exact ⟨fI1, fA30⟩
                  · have h := iN c_32 h
                    cases h; exact ⟨fI1, fA30⟩
            · have h := iN c_16 h
              obtain ⟨⟨r17, I18, A19⟩, hc20, h⟩ := Option.bind_eq_some_iff.mp h
              have fI18 : Fc pR I I18 := Fc_tr fI1 (fr_X7_whatIs I1 A14 v13 (I1 318 59) 1 r17 I18 A19 hc20).1
              have fA19 : Fc pR A A19 := Fc_tr fA14 (fr_X7_whatIs I1 A14 v13 (I1 318 59) 1 r17 I18 A19 hc20).2
              by_cases c_21 : a1 = 2
              · have h := ip c_21 h
                cases h; exact ⟨fI18, fA19⟩
              · have h := iN c_21 h
                by_cases c_22 : a1 = 3
                · have h := ip c_22 h
                  by_cases c_24 : r17 = 0
                  · have h := ip c_24 h
                    cases h; exact ⟨fI18, fA19⟩
                  · have h := iN c_24 h
                    cases h; exact ⟨fI18, fA19⟩
                · have h := iN c_22 h
                  by_cases c_23 : r17 = 0
                  · have h := ip c_23 h
                    cases h; exact ⟨fI18, fA19⟩
                  · have h := iN c_23 h
                    cases h; exact ⟨fI18, fA19⟩
        have lp8 : ∀ (n : Nat) (v9 : Int32) (v10 : Int32) (A11 : Nat → Nat → Int32), f_X7_node_L53 a1 a2 a3 I1 k12 n v9 v10 A11 = some (r0, I0, A0) → Fc pR A A11 → Fc pR I I0 ∧ Fc pR A A0 := by
          intro n
          induction n with
          | zero => intro v9 v10 A11 h; exact absurd h (by rw [f_X7_node_L53]; exact nofun)
          | succ n ih8 =>
            intro v9 v10 A11 h fA11
            rw [f_X7_node_L53] at h
            by_cases c_39 : v9 < 6
            · have h := ip c_39 h
              by_cases c_40 : v9 < (I1 318 59)
              · have h := ip c_40 h
                obtain ⟨hn43, h⟩ := gk h
                obtain ⟨A44, eA44, h⟩ := bd_e h
                have fA44 : Fc pR A A44 := by rw [eA44]; exact Fc_up fA11 (show ¬ 364 < 318 by decide)
                exact ih8 (v9 + 1) v10 A44 h fA44
              · have h := iN c_40 h
                obtain ⟨hn41, h⟩ := gk h
                obtain ⟨A42, eA42, h⟩ := bd_e h
                have fA42 : Fc pR A A42 := by rw [eA42]; exact Fc_up fA11 (show ¬ 364 < 318 by decide)
                exact ih8 (v9 + 1) v10 A42 h fA42
            · have h := iN c_39 h
              exact kk12 v10 A11 h fA11
        exact lp8 FU 0 (I1 318 57) A h fA
      · have h := iN c_7 h
        cases h; exact ⟨fI1, fA⟩
set_option maxHeartbeats 4000000 in
set_option maxRecDepth 100000 in
theorem fr_X7_number (I : Nat → Nat → Int32) (A : Nat → Nat → Int32) (a1 : Int32) (a2 : Int32) (a3 : Int32) (r0 : Int32) (I0 : Nat → Nat → Int32) (A0 : Nat → Nat → Int32) (h : f_X7_number I A a1 a2 a3 = some (r0, I0, A0)) : Fc pR I I0 ∧ Fc pR A A0 := by
  have fI : Fc pR I I := Fc_rf
  have fA : Fc pR A A := Fc_rf
  rw [f_X7_number] at h
  obtain ⟨I1, eI1, h⟩ := bd_e h
  have fI1 : Fc pR I I1 := by rw [eI1]; exact Fc_up fI (show ¬ 318 < 318 by decide)
  obtain ⟨I2, eI2, h⟩ := bd_e h
  have fI2 : Fc pR I I2 := by rw [eI2]; exact Fc_up fI1 (show ¬ 318 < 318 by decide)
  obtain ⟨r3, hc4, h⟩ := Option.bind_eq_some_iff.mp h
  by_cases c_5 : r3 = 0
  · have h := ip c_5 h
    obtain ⟨⟨r6, I7⟩, hc8, h⟩ := Option.bind_eq_some_iff.mp h
    have fI7 : Fc pR I I7 := Fc_tr fI2 (fr_X7_no I2 (-1) r6 I7 hc8)
    cases h; exact ⟨fI7, fA⟩
  · have h := iN c_5 h
    obtain ⟨r9, hc10, h⟩ := Option.bind_eq_some_iff.mp h
    by_cases c_11 : r9 = 0
    · have h := ip c_11 h
      obtain ⟨⟨r21, I22⟩, hc23, h⟩ := Option.bind_eq_some_iff.mp h
      have fI22 : Fc pR I I22 := Fc_tr fI2 (fr_X7_no I2 (-1) r21 I22 hc23)
      cases h; exact ⟨fI22, fA⟩
    · have h := iN c_11 h
      by_cases c_12 : (I2 318 23) = (-9)
      · have h := ip c_12 h
        obtain ⟨hn13, h⟩ := gk h
        obtain ⟨A14, eA14, h⟩ := bd_e h
        have fA14 : Fc pR A A14 := by rw [eA14]; exact Fc_up fA (show ¬ 325 < 318 by decide)
        obtain ⟨⟨I15, A16⟩, hc17, h⟩ := Option.bind_eq_some_iff.mp h
        have fI15 : Fc pR I I15 := Fc_tr fI2 (fr_X7_changes I2 A14 a1 I15 A16 hc17).1
        have fA16 : Fc pR A A16 := Fc_tr fA14 (fr_X7_changes I2 A14 a1 I15 A16 hc17).2
        cases h; exact ⟨fI15, fA16⟩
      · have h := iN c_12 h
        obtain ⟨⟨r18, I19⟩, hc20, h⟩ := Option.bind_eq_some_iff.mp h
        have fI19 : Fc pR I I19 := Fc_tr fI2 (fr_X7_no I2 (-2) r18 I19 hc20)
        cases h; exact ⟨fI19, fA⟩
set_option maxHeartbeats 4000000 in
set_option maxRecDepth 100000 in
theorem fr_X7_rowOf (A : Nat → Nat → Int32) (a1 : Int32) (A0 : Nat → Nat → Int32) (h : f_X7_rowOf A a1 = some A0) : Fc pR A A0 := by
  have fA : Fc pR A A := Fc_rf
  rw [f_X7_rowOf] at h
  obtain ⟨k4, ek4, h⟩ := bd_e h
  have kk4 : ∀ (A5 : Nat → Nat → Int32), k4 A5 = some A0 → Fc pR A A5 → Fc pR A A0 := by
    intro A5 h fA5
    subst ek4
    cases h; exact fA5
  have lp1 : ∀ (n : Nat) (v2 : Int32) (A3 : Nat → Nat → Int32), f_X7_rowOf_L2 a1 k4 n v2 A3 = some A0 → Fc pR A A3 → Fc pR A A0 := by
    intro n
    induction n with
    | zero => intro v2 A3 h; exact absurd h (by rw [f_X7_rowOf_L2]; exact nofun)
    | succ n ih1 =>
      intro v2 A3 h fA3
      rw [f_X7_rowOf_L2] at h
      by_cases c_6 : v2 < 6
      · have h := ip c_6 h
        obtain ⟨hn7, h⟩ := gk h
        obtain ⟨hn8, h⟩ := gk h
        obtain ⟨A9, eA9, h⟩ := bd_e h
        have fA9 : Fc pR A A9 := by rw [eA9]; exact Fc_up fA3 (show ¬ 364 < 318 by decide)
        exact ih1 (v2 + 1) A9 h fA9
      · have h := iN c_6 h
        exact kk4 A3 h fA3
  exact lp1 FU 0 A h fA
set_option maxHeartbeats 4000000 in
set_option maxRecDepth 100000 in
theorem fr_X7_opens (I : Nat → Nat → Int32) (A : Nat → Nat → Int32) (a1 : Int32) (a2 : Int32) (a3 : Int32) (I0 : Nat → Nat → Int32) (A0 : Nat → Nat → Int32) (h : f_X7_opens I A a1 a2 a3 = some (I0, A0)) : Fc pR I I0 ∧ Fc pR A A0 := by
  have fI : Fc pR I I := Fc_rf
  have fA : Fc pR A A := Fc_rf
  rw [f_X7_opens] at h
  obtain ⟨hn1, h⟩ := gk h
  obtain ⟨A2, eA2, h⟩ := bd_e h
  have fA2 : Fc pR A A2 := by rw [eA2]; exact Fc_up fA (show ¬ 344 < 318 by decide)
  obtain ⟨I3, eI3, h⟩ := bd_e h
  have fI3 : Fc pR I I3 := by rw [eI3]; exact Fc_up fI (show ¬ 318 < 318 by decide)
  obtain ⟨hn4, h⟩ := gk h
  by_cases c_5 : (A2 338 a2.toNatClampNeg) = (A2 319 a1.toNatClampNeg)
  · have h := ip c_5 h
    cases h; exact ⟨fI3, fA2⟩
  · have h := iN c_5 h
    obtain ⟨k11, ek11, h⟩ := bd_e h
    have kk11 : ∀ (I12 : Nat → Nat → Int32) (A13 : Nat → Nat → Int32), k11 I12 A13 = some (I0, A0) → Fc pR I I12 → Fc pR A A13 → Fc pR I I0 ∧ Fc pR A A0 := by
      intro I12 A13 h fI12 fA13
      subst ek11
      cases h; exact ⟨fI12, fA13⟩
    have lp6 : ∀ (n : Nat) (v7 : Int32) (v8 : Int32) (I9 : Nat → Nat → Int32) (A10 : Nat → Nat → Int32), f_X7_opens_L40 a1 a2 a3 k11 n v7 v8 I9 A10 = some (I0, A0) → Fc pR I I9 → Fc pR A A10 → Fc pR I I0 ∧ Fc pR A A0 := by
      intro n
      induction n with
      | zero => intro v7 v8 I9 A10 h; exact absurd h (by rw [f_X7_opens_L40]; exact nofun)
      | succ n ih6 =>
        intro v7 v8 I9 A10 h fI9 fA10
        rw [f_X7_opens_L40] at h
        obtain ⟨hn14, h⟩ := gk h
        by_cases c_15 : v7 < (A10 321 (((6 * a1) + v8).toNatClampNeg))
        · have h := ip c_15 h
          obtain ⟨A16, hc17, h⟩ := Option.bind_eq_some_iff.mp h
          have fA16 : Fc pR A A16 := Fc_tr fA10 (fr_X7_rowOf A10 a2 A16 hc17)
          obtain ⟨hn18, h⟩ := gk h
          obtain ⟨A19, eA19, h⟩ := bd_e h
          have fA19 : Fc pR A A19 := by rw [eA19]; exact Fc_up fA16 (show ¬ 364 < 318 by decide)
          obtain ⟨⟨r20, I21, A22⟩, hc23, h⟩ := Option.bind_eq_some_iff.mp h
          have fI21 : Fc pR I I21 := Fc_tr fI9 (fr_X7_whatIs I9 A19 a1 (v8 + 1) a3 r20 I21 A22 hc23).1
          have fA22 : Fc pR A A22 := Fc_tr fA19 (fr_X7_whatIs I9 A19 a1 (v8 + 1) a3 r20 I21 A22 hc23).2
          obtain ⟨hn24, h⟩ := gk h
          obtain ⟨A25, eA25, h⟩ := bd_e h
          have fA25 : Fc pR A A25 := by rw [eA25]; exact Fc_up fA22 (show ¬ 347 < 318 by decide)
          obtain ⟨j27, ej27, h⟩ := bd_e h
          have kj27 : ∀ (z26 : Int32), j27 z26 = some (I0, A0) → Fc pR I I0 ∧ Fc pR A A0 := by
            intro z26 h
            subst ej27
            obtain ⟨A28, eA28, h⟩ := bd_e h
            have fA28 : Fc pR A A28 := by rw [eA28]; exact Fc_up fA25 (show ¬ 348 < 318 by decide)
            by_cases c_29 : r20 = 0
            · have h := ip c_29 h
              obtain ⟨⟨I30, A31⟩, hc32, h⟩ := Option.bind_eq_some_iff.mp h
              have fI30 : Fc pR I I30 := Fc_tr fI21 (fr_X7_addNode I21 A28 (v8 + 1) a2 I30 A31 hc32).1
              have fA31 : Fc pR A A31 := Fc_tr fA28 (fr_X7_addNode I21 A28 (v8 + 1) a2 I30 A31 hc32).2
              obtain ⟨A33, eA33, h⟩ := bd_e h
              have fA33 : Fc pR A A33 := by rw [eA33]; exact Fc_up fA31 (show ¬ 349 < 318 by decide)
              exact ih6 (v7 + 1) v8 I30 A33 h fI30 fA33
            · have h := iN c_29 h
              exact ih6 (v7 + 1) v8 I21 A28 h fI21 fA28
          by_cases c_34 : r20 = 0
          · have h := ip c_34 h
            exact kj27 (-9) h
          · have h := iN c_34 h
            exact kj27 (I21 318 64) h
        · have h := iN c_15 h
          exact kk11 I9 A10 h fI9 fA10
    exact lp6 FU 0 (A2 338 a2.toNatClampNeg) I3 A2 h fI3 fA2
set_option maxHeartbeats 4000000 in
set_option maxRecDepth 100000 in
theorem fr_X7_part (I : Nat → Nat → Int32) (A : Nat → Nat → Int32) (a1 : Int32) (a2 : Int32) (a3 : Int32) (a4 : Int32) (r0 : Int32) (I0 : Nat → Nat → Int32) (A0 : Nat → Nat → Int32) (h : f_X7_part I A a1 a2 a3 a4 = some (r0, I0, A0)) : Fc pR I I0 ∧ Fc pR A A0 := by
  have fI : Fc pR I I := Fc_rf
  have fA : Fc pR A A := Fc_rf
  rw [f_X7_part] at h
  obtain ⟨I1, eI1, h⟩ := bd_e h
  have fI1 : Fc pR I I1 := by rw [eI1]; exact Fc_up fI (show ¬ 318 < 318 by decide)
  obtain ⟨r2, hc3, h⟩ := Option.bind_eq_some_iff.mp h
  by_cases c_4 : r2 = 0
  · have h := ip c_4 h
    cases h; exact ⟨fI1, fA⟩
  · have h := iN c_4 h
    obtain ⟨hn5, h⟩ := gk h
    obtain ⟨r6, hc7, h⟩ := Option.bind_eq_some_iff.mp h
    by_cases c_8 : r6 = 0
    · have h := ip c_8 h
      cases h; exact ⟨fI1, fA⟩
    · have h := iN c_8 h
      obtain ⟨r9, hc10, h⟩ := Option.bind_eq_some_iff.mp h
      by_cases c_11 : r9 = 0
      · have h := ip c_11 h
        cases h; exact ⟨fI1, fA⟩
      · have h := iN c_11 h
        by_cases c_12 : (I1 318 23) = (-9)
        · have h := ip c_12 h
          obtain ⟨r13, hc14, h⟩ := Option.bind_eq_some_iff.mp h
          by_cases c_15 : r13 = (-9)
          · have h := ip c_15 h
            obtain ⟨hn16, h⟩ := gk h
            obtain ⟨hn17, h⟩ := gk h
            obtain ⟨A18, eA18, h⟩ := bd_e h
            have fA18 : Fc pR A A18 := by rw [eA18]; exact Fc_up fA (show ¬ 327 < 318 by decide)
            obtain ⟨hn19, h⟩ := gk h
            obtain ⟨A20, eA20, h⟩ := bd_e h
            have fA20 : Fc pR A A20 := by rw [eA20]; exact Fc_up fA18 (show ¬ 328 < 318 by decide)
            obtain ⟨A21, eA21, h⟩ := bd_e h
            have fA21 : Fc pR A A21 := by rw [eA21]; exact Fc_up fA20 (show ¬ 326 < 318 by decide)
            obtain ⟨⟨I22, A23⟩, hc24, h⟩ := Option.bind_eq_some_iff.mp h
            have fI22 : Fc pR I I22 := Fc_tr fI1 (fr_X7_changes I1 A21 a1 I22 A23 hc24).1
            have fA23 : Fc pR A A23 := Fc_tr fA21 (fr_X7_changes I1 A21 a1 I22 A23 hc24).2
            cases h; exact ⟨fI22, fA23⟩
          · have h := iN c_15 h
            cases h; exact ⟨fI1, fA⟩
        · have h := iN c_12 h
          cases h; exact ⟨fI1, fA⟩
set_option maxHeartbeats 4000000 in
set_option maxRecDepth 100000 in
theorem fr_X7_plain (I : Nat → Nat → Int32) (r0 : Int32) (I0 : Nat → Nat → Int32) (h : f_X7_plain I = some (r0, I0)) : Fc pR I I0 := by
  have fI : Fc pR I I := Fc_rf
  rw [f_X7_plain] at h
  obtain ⟨I1, eI1, h⟩ := bd_e h
  have fI1 : Fc pR I I1 := by rw [eI1]; exact Fc_up fI (show ¬ 318 < 318 by decide)
  by_cases c_2 : (I1 318 23) = (-9)
  · have h := ip c_2 h
    obtain ⟨I3, eI3, h⟩ := bd_e h
    have fI3 : Fc pR I I3 := by rw [eI3]; exact Fc_up fI1 (show ¬ 318 < 318 by decide)
    cases h; exact fI3
  · have h := iN c_2 h
    cases h; exact fI1
set_option maxHeartbeats 4000000 in
set_option maxRecDepth 100000 in
theorem fr_X7_problem (I : Nat → Nat → Int32) (r0 : Int32) (I0 : Nat → Nat → Int32) (h : f_X7_problem I = some (r0, I0)) : Fc pR I I0 := by
  have fI : Fc pR I I := Fc_rf
  rw [f_X7_problem] at h
  obtain ⟨I1, eI1, h⟩ := bd_e h
  have fI1 : Fc pR I I1 := by rw [eI1]; exact Fc_up fI (show ¬ 318 < 318 by decide)
  by_cases c_2 : (I1 318 23) = (-9)
  · have h := ip c_2 h
    by_cases c_3 : (I1 318 2) = 5
    · have h := ip c_3 h
      cases h; exact fI1
    · have h := iN c_3 h
      obtain ⟨I4, eI4, h⟩ := bd_e h
      have fI4 : Fc pR I I4 := by rw [eI4]; exact Fc_up fI1 (show ¬ 318 < 318 by decide)
      cases h; exact fI4
  · have h := iN c_2 h
    cases h; exact fI1
set_option maxHeartbeats 4000000 in
set_option maxRecDepth 100000 in
theorem fr_X7_row (I : Nat → Nat → Int32) (A : Nat → Nat → Int32) (a1 : Int32) (r0 : Int32) (I0 : Nat → Nat → Int32) (h : f_X7_row I A a1 = some (r0, I0)) : Fc pR I I0 := by
  have fI : Fc pR I I := Fc_rf
  have fA : Fc pR A A := Fc_rf
  rw [f_X7_row] at h
  obtain ⟨I1, eI1, h⟩ := bd_e h
  have fI1 : Fc pR I I1 := by rw [eI1]; exact Fc_up fI (show ¬ 318 < 318 by decide)
  by_cases c_2 : (I1 318 61) = (-9)
  · have h := ip c_2 h
    cases h; exact fI1
  · have h := iN c_2 h
    obtain ⟨r3, hc4, h⟩ := Option.bind_eq_some_iff.mp h
    by_cases c_5 : r3 = 0
    · have h := ip c_5 h
      cases h; exact fI1
    · have h := iN c_5 h
      obtain ⟨hn6, h⟩ := gk h
      cases h; exact fI1
set_option maxHeartbeats 4000000 in
set_option maxRecDepth 100000 in
theorem fr_X7_rule (I : Nat → Nat → Int32) (A : Nat → Nat → Int32) (a1 : Int32) (a2 : Int32) (a3 : Int32) (r0 : Int32) (I0 : Nat → Nat → Int32) (A0 : Nat → Nat → Int32) (h : f_X7_rule I A a1 a2 a3 = some (r0, I0, A0)) : Fc pR I I0 ∧ Fc pR A A0 := by
  have fI : Fc pR I I := Fc_rf
  have fA : Fc pR A A := Fc_rf
  rw [f_X7_rule] at h
  obtain ⟨I1, eI1, h⟩ := bd_e h
  have fI1 : Fc pR I I1 := by rw [eI1]; exact Fc_up fI (show ¬ 318 < 318 by decide)
  obtain ⟨r2, hc3, h⟩ := Option.bind_eq_some_iff.mp h
  by_cases c_4 : r2 = 0
  · have h := ip c_4 h
    cases h; exact ⟨fI1, fA⟩
  · have h := iN c_4 h
    obtain ⟨r5, hc6, h⟩ := Option.bind_eq_some_iff.mp h
    by_cases c_7 : r5 = 0
    · have h := ip c_7 h
      cases h; exact ⟨fI1, fA⟩
    · have h := iN c_7 h
      obtain ⟨r8, hc9, h⟩ := Option.bind_eq_some_iff.mp h
      by_cases c_10 : r8 = 0
      · have h := ip c_10 h
        cases h; exact ⟨fI1, fA⟩
      · have h := iN c_10 h
        by_cases c_11 : (I1 318 23) = (-9)
        · have h := ip c_11 h
          obtain ⟨hn12, h⟩ := gk h
          by_cases c_13 : (A 320 a1.toNatClampNeg) = 8
          · have h := ip c_13 h
            cases h; exact ⟨fI1, fA⟩
          · have h := iN c_13 h
            obtain ⟨hn14, h⟩ := gk h
            obtain ⟨A15, eA15, h⟩ := bd_e h
            have fA15 : Fc pR A A15 := by rw [eA15]; exact Fc_up fA (show ¬ 324 < 318 by decide)
            obtain ⟨A16, eA16, h⟩ := bd_e h
            have fA16 : Fc pR A A16 := by rw [eA16]; exact Fc_up fA15 (show ¬ 325 < 318 by decide)
            obtain ⟨A17, eA17, h⟩ := bd_e h
            have fA17 : Fc pR A A17 := by rw [eA17]; exact Fc_up fA16 (show ¬ 320 < 318 by decide)
            obtain ⟨⟨I18, A19⟩, hc20, h⟩ := Option.bind_eq_some_iff.mp h
            have fI18 : Fc pR I I18 := Fc_tr fI1 (fr_X7_changes I1 A17 a1 I18 A19 hc20).1
            have fA19 : Fc pR A A19 := Fc_tr fA17 (fr_X7_changes I1 A17 a1 I18 A19 hc20).2
            cases h; exact ⟨fI18, fA19⟩
        · have h := iN c_11 h
          cases h; exact ⟨fI1, fA⟩
set_option maxHeartbeats 4000000 in
set_option maxRecDepth 100000 in
theorem fr_X7_same (I : Nat → Nat → Int32) (a1 : Int32) (a2 : Int32) (r0 : Int32) (I0 : Nat → Nat → Int32) (h : f_X7_same I a1 a2 = some (r0, I0)) : Fc pR I I0 := by
  have fI : Fc pR I I := Fc_rf
  rw [f_X7_same] at h
  obtain ⟨I1, eI1, h⟩ := bd_e h
  have fI1 : Fc pR I I1 := by rw [eI1]; exact Fc_up fI (show ¬ 318 < 318 by decide)
  obtain ⟨r2, hc3, h⟩ := Option.bind_eq_some_iff.mp h
  by_cases c_4 : r2 = 0
  · have h := ip c_4 h
    cases h; exact fI1
  · have h := iN c_4 h
    obtain ⟨r5, hc6, h⟩ := Option.bind_eq_some_iff.mp h
    by_cases c_7 : r5 = 0
    · have h := ip c_7 h
      cases h; exact fI1
    · have h := iN c_7 h
      by_cases c_8 : (I1 318 23) = (-9)
      · have h := ip c_8 h
        cases h; exact fI1
      · have h := iN c_8 h
        cases h; exact fI1
set_option maxHeartbeats 4000000 in
set_option maxRecDepth 100000 in
theorem fr_X7_takes (I : Nat → Nat → Int32) (A : Nat → Nat → Int32) (a1 : Int32) (I0 : Nat → Nat → Int32) (A0 : Nat → Nat → Int32) (h : f_X7_takes I A a1 = some (I0, A0)) : Fc pR I I0 ∧ Fc pR A A0 := by
  have fI : Fc pR I I := Fc_rf
  have fA : Fc pR A A := Fc_rf
  rw [f_X7_takes] at h
  obtain ⟨hn1, h⟩ := gk h
  obtain ⟨A2, eA2, h⟩ := bd_e h
  have fA2 : Fc pR A A2 := by rw [eA2]; exact Fc_up fA (show ¬ 345 < 318 by decide)
  obtain ⟨hn3, h⟩ := gk h
  obtain ⟨A4, eA4, h⟩ := bd_e h
  have fA4 : Fc pR A A4 := by rw [eA4]; exact Fc_up fA2 (show ¬ 346 < 318 by decide)
  obtain ⟨I5, eI5, h⟩ := bd_e h
  have fI5 : Fc pR I I5 := by rw [eI5]; exact Fc_up fI (show ¬ 318 < 318 by decide)
  cases h; exact ⟨fI5, fA4⟩
set_option maxHeartbeats 4000000 in
set_option maxRecDepth 100000 in
theorem fr_X7_second (I : Nat → Nat → Int32) (A : Nat → Nat → Int32) (a1 : Int32) (a2 : Int32) (r0 : Int32) (I0 : Nat → Nat → Int32) (A0 : Nat → Nat → Int32) (h : f_X7_second I A a1 a2 = some (r0, I0, A0)) : Fc pR I I0 ∧ Fc pR A A0 := by
  have fI : Fc pR I I := Fc_rf
  have fA : Fc pR A A := Fc_rf
  rw [f_X7_second] at h
  obtain ⟨I1, eI1, h⟩ := bd_e h
  have fI1 : Fc pR I I1 := by rw [eI1]; exact Fc_up fI (show ¬ 318 < 318 by decide)
  obtain ⟨r2, hc3, h⟩ := Option.bind_eq_some_iff.mp h
  by_cases c_4 : r2 = 0
  · have h := ip c_4 h
    cases h; exact ⟨fI1, fA⟩
  · have h := iN c_4 h
    obtain ⟨r5, hc6, h⟩ := Option.bind_eq_some_iff.mp h
    by_cases c_7 : r5 = 0
    · have h := ip c_7 h
      cases h; exact ⟨fI1, fA⟩
    · have h := iN c_7 h
      obtain ⟨⟨I8, A9⟩, hc10, h⟩ := Option.bind_eq_some_iff.mp h
      have fI8 : Fc pR I I8 := Fc_tr fI1 (fr_X7_aside I1 A I8 A9 hc10).1
      have fA9 : Fc pR A A9 := Fc_tr fA (fr_X7_aside I1 A I8 A9 hc10).2
      obtain ⟨⟨I11, A12⟩, hc13, h⟩ := Option.bind_eq_some_iff.mp h
      have fI11 : Fc pR I I11 := Fc_tr fI8 (fr_X7_begins I8 A9 a1 0 I11 A12 hc13).1
      have fA12 : Fc pR A A12 := Fc_tr fA9 (fr_X7_begins I8 A9 a1 0 I11 A12 hc13).2
      obtain ⟨r14, hc15, h⟩ := Option.bind_eq_some_iff.mp h
      obtain ⟨k22, ek22, h⟩ := bd_e h
      have kk22 : ∀ (v23 : Int32) (v24 : Int32) (I25 : Nat → Nat → Int32) (A26 : Nat → Nat → Int32), k22 v23 v24 I25 A26 = some (r0, I0, A0) → Fc pR I I25 → Fc pR A A26 → Fc pR I I0 ∧ Fc pR A A0 := by
        intro v23 v24 I25 A26 h fI25 fA26
        subst ek22
        obtain ⟨j29, ej29, h⟩ := bd_e h
        have kj29 : ∀ (z28 : Int32), j29 z28 = some (r0, I0, A0) → Fc pR I I0 ∧ Fc pR A A0 := by
          intro z28 h
          subst ej29
          obtain ⟨I30, eI30, h⟩ := bd_e h
          have fI30 : Fc pR I I30 := by rw [eI30]; exact Fc_up fI25 (show ¬ 318 < 318 by decide)
          obtain ⟨j34, ej34, h⟩ := bd_e h
          have kj34 : ∀ (z33 : Int32), j34 z33 = some (r0, I0, A0) → Fc pR I I0 ∧ Fc pR A A0 := by
            intro z33 h
            subst ej34
            obtain ⟨k38, ek38, h⟩ := bd_e h
            have kk38 : ∀ (A39 : Nat → Nat → Int32), k38 A39 = some (r0, I0, A0) → Fc pR A A39 → Fc pR I I0 ∧ Fc pR A A0 := by
              intro A39 h fA39
              subst ek38
              obtain ⟨⟨I40, A41⟩, hc42, h⟩ := Option.bind_eq_some_iff.mp h
              have fI40 : Fc pR I I40 := Fc_tr fI30 (fr_X7_aside I30 A39 I40 A41 hc42).1
              have fA41 : Fc pR A A41 := Fc_tr fA39 (fr_X7_aside I30 A39 I40 A41 hc42).2
              cases h; exact ⟨fI40, fA41⟩
            have lp35 : ∀ (n : Nat) (v36 : Int32) (A37 : Nat → Nat → Int32), f_X7_second_L188 z33 v23 I30 k38 n v36 A37 = some (r0, I0, A0) → Fc pR A A37 → Fc pR I I0 ∧ Fc pR A A0 := by
              intro n
              induction n with
              | zero => intro v36 A37 h; exact absurd h (by rw [f_X7_second_L188]; exact nofun)
              | succ n ih35 =>
                intro v36 A37 h fA37
                rw [f_X7_second_L188] at h
                by_cases c_43 : v36 < 6
                · have h := ip c_43 h
                  by_cases c_44 : v23 = (-9)
                  · have h := ip c_44 h
                    exact kk38 A37 h fA37
                  · have h := iN c_44 h
                    obtain ⟨hn45, h⟩ := gk h
                    obtain ⟨hn46, h⟩ := gk h
                    obtain ⟨A47, eA47, h⟩ := bd_e h
                    have fA47 : Fc pR A A47 := by rw [eA47]; exact Fc_up fA37 (show ¬ 363 < 318 by decide)
                    exact ih35 (v36 + 1) A47 h fA47
                · have h := iN c_43 h
                  exact kk38 A37 h fA37
            exact lp35 FU 0 A26 h fA26
          by_cases c_48 : v23 = (-9)
          · have h := ip c_48 h
            by_cases c_49 : v24 = (-9)
            · have h := ip c_49 h
              exact kj34 (-1000000) h
            · have h := iN c_49 h
              exact kj34 (-1000001) h
          · have h := iN c_48 h
            obtain ⟨hn50, h⟩ := gk h
            exact kj34 (A26 341 v23.toNatClampNeg) h
        by_cases c_51 : v23 = (-9)
        · have h := ip c_51 h
          exact kj29 (-9) h
        · have h := iN c_51 h
          obtain ⟨hn52, h⟩ := gk h
          exact kj29 (A26 319 a1.toNatClampNeg) h
      have lp16 : ∀ (n : Nat) (v17 : Int32) (v18 : Int32) (v19 : Int32) (I20 : Nat → Nat → Int32) (A21 : Nat → Nat → Int32), f_X7_second_L49 a1 a2 k22 n v17 v18 v19 I20 A21 = some (r0, I0, A0) → Fc pR I I20 → Fc pR A A21 → Fc pR I I0 ∧ Fc pR A A0 := by
        intro n
        induction n with
        | zero => intro v17 v18 v19 I20 A21 h; exact absurd h (by rw [f_X7_second_L49]; exact nofun)
        | succ n ih16 =>
          intro v17 v18 v19 I20 A21 h fI20 fA21
          rw [f_X7_second_L49] at h
          by_cases c_53 : v17 = (-9)
          · have h := ip c_53 h
            exact kk22 v18 v17 I20 A21 h fI20 fA21
          · have h := iN c_53 h
            by_cases c_54 : (I20 318 31) < 250
            · have h := ip c_54 h
              by_cases c_55 : v18 = (-9)
              · have h := ip c_55 h
                obtain ⟨⟨I56, A57⟩, hc58, h⟩ := Option.bind_eq_some_iff.mp h
                have fI56 : Fc pR I I56 := Fc_tr fI20 (fr_X7_takes I20 A21 v17 I56 A57 hc58).1
                have fA57 : Fc pR A A57 := Fc_tr fA21 (fr_X7_takes I20 A21 v17 I56 A57 hc58).2
                obtain ⟨⟨I59, A60⟩, hc61, h⟩ := Option.bind_eq_some_iff.mp h
                have fI59 : Fc pR I I59 := Fc_tr fI56 (fr_X7_opens I56 A57 a1 v17 0 I59 A60 hc61).1
                have fA60 : Fc pR A A60 := Fc_tr fA57 (fr_X7_opens I56 A57 a1 v17 0 I59 A60 hc61).2
                obtain ⟨hn62, h⟩ := gk h
                obtain ⟨hn63, h⟩ := gk h
                by_cases c_64 : (A60 338 v17.toNatClampNeg) = (A60 319 a1.toNatClampNeg)
                · have h := ip c_64 h
                  by_cases c_67 : v19 = a2
                  · have h := ip c_67 h
                    obtain ⟨r70, hc71, h⟩ := Option.bind_eq_some_iff.mp h
                    exact ih16 r70 v17 (v19 + 1) I59 A60 h fI59 fA60
                  · have h := iN c_67 h
                    obtain ⟨r68, hc69, h⟩ := Option.bind_eq_some_iff.mp h
                    exact ih16 r68 (-9) (v19 + 1) I59 A60 h fI59 fA60
                · have h := iN c_64 h
                  obtain ⟨r65, hc66, h⟩ := Option.bind_eq_some_iff.mp h
                  exact ih16 r65 v18 v19 I59 A60 h fI59 fA60
              · have h := iN c_55 h
                exact kk22 v18 v17 I20 A21 h fI20 fA21
            · have h := iN c_54 h
              exact kk22 v18 v17 I20 A21 h fI20 fA21
      exact lp16 FU r14 (-9) 0 I11 A12 h fI11 fA12
set_option maxHeartbeats 4000000 in
set_option maxRecDepth 100000 in
theorem fr_X7_turnOf (I : Nat → Nat → Int32) (A : Nat → Nat → Int32) (a1 : Int32) (a2 : Int32) (I0 : Nat → Nat → Int32) (A0 : Nat → Nat → Int32) (h : f_X7_turnOf I A a1 a2 = some (I0, A0)) : Fc pR I I0 ∧ Fc pR A A0 := by
  have fI : Fc pR I I := Fc_rf
  have fA : Fc pR A A := Fc_rf
  rw [f_X7_turnOf] at h
  obtain ⟨hn1, h⟩ := gk h
  by_cases c_2 : (A 337 a2.toNatClampNeg) = (-9)
  · have h := ip c_2 h
    obtain ⟨k21, ek21, h⟩ := bd_e h
    have kk21 : ∀ (v22 : Int32), k21 v22 = some (I0, A0) → Fc pR I I0 ∧ Fc pR A A0 := by
      intro v22 h
      subst ek21
      by_cases c_23 : v22 = (-9)
      · have h := ip c_23 h
        obtain ⟨A24, eA24, h⟩ := bd_e h
        have fA24 : Fc pR A A24 := by rw [eA24]; exact Fc_up fA (show ¬ 332 < 318 by decide)
        cases h; exact ⟨fI, fA24⟩
      · have h := iN c_23 h
        by_cases c_25 : ((I 318 30) - (I 318 31)) < 30
        · have h := ip c_25 h
          obtain ⟨A26, eA26, h⟩ := bd_e h
          have fA26 : Fc pR A A26 := by rw [eA26]; exact Fc_up fA (show ¬ 337 < 318 by decide)
          obtain ⟨hn27, h⟩ := gk h
          obtain ⟨A28, eA28, h⟩ := bd_e h
          have fA28 : Fc pR A A28 := by rw [eA28]; exact Fc_up fA26 (show ¬ 343 < 318 by decide)
          obtain ⟨A29, eA29, h⟩ := bd_e h
          have fA29 : Fc pR A A29 := by rw [eA29]; exact Fc_up fA28 (show ¬ 336 < 318 by decide)
          cases h; exact ⟨fI, fA29⟩
        · have h := iN c_25 h
          obtain ⟨A30, eA30, h⟩ := bd_e h
          have fA30 : Fc pR A A30 := by rw [eA30]; exact Fc_up fA (show ¬ 332 < 318 by decide)
          cases h; exact ⟨fI, fA30⟩
    have lp18 : ∀ (n : Nat) (v19 : Int32) (v20 : Int32), f_X7_turnOf_L17 a2 I A k21 n v19 v20 = some (I0, A0) → Fc pR I I0 ∧ Fc pR A A0 := by
      intro n
      induction n with
      | zero => intro v19 v20 h; exact absurd h (by rw [f_X7_turnOf_L17]; exact nofun)
      | succ n ih18 =>
        intro v19 v20 h
        rw [f_X7_turnOf_L17] at h
        by_cases c_31 : v19 < (I 318 29)
        · have h := ip c_31 h
          obtain ⟨hn32, h⟩ := gk h
          by_cases c_33 : (A 343 v19.toNatClampNeg) = (-9)
          · have h := ip c_33 h
            by_cases c_34 : v20 = (-9)
            · have h := ip c_34 h
              exact ih18 (v19 + 1) v19 h
            · have h := iN c_34 h
              obtain ⟨r35, hc36, h⟩ := Option.bind_eq_some_iff.mp h
              by_cases c_37 : r35 = 0
              · have h := ip c_37 h
                exact ih18 (v19 + 1) v20 h
              · have h := iN c_37 h
                exact ih18 (v19 + 1) v19 h
          · have h := iN c_33 h
            exact ih18 (v19 + 1) v20 h
        · have h := iN c_31 h
          exact kk21 v20 h
    exact lp18 FU 0 (-9) h
  · have h := iN c_2 h
    obtain ⟨A3, eA3, h⟩ := bd_e h
    have fA3 : Fc pR A A3 := by rw [eA3]; exact Fc_up fA (show ¬ 337 < 318 by decide)
    by_cases c_4 : 0 < (A3 335 a2.toNatClampNeg)
    · have h := ip c_4 h
      by_cases c_9 : (A3 336 a2.toNatClampNeg) = (A3 335 a2.toNatClampNeg)
      · have h := ip c_9 h
        obtain ⟨hn14, h⟩ := gk h
        obtain ⟨A15, eA15, h⟩ := bd_e h
        have fA15 : Fc pR A A15 := by rw [eA15]; exact Fc_up fA3 (show ¬ 343 < 318 by decide)
        obtain ⟨A16, eA16, h⟩ := bd_e h
        have fA16 : Fc pR A A16 := by rw [eA16]; exact Fc_up fA15 (show ¬ 335 < 318 by decide)
        obtain ⟨A17, eA17, h⟩ := bd_e h
        have fA17 : Fc pR A A17 := by rw [eA17]; exact Fc_up fA16 (show ¬ 333 < 318 by decide)
        cases h; exact ⟨fI, fA17⟩
      · have h := iN c_9 h
        obtain ⟨A10, eA10, h⟩ := bd_e h
        have fA10 : Fc pR A A10 := by rw [eA10]; exact Fc_up fA3 (show ¬ 334 < 318 by decide)
        obtain ⟨⟨I11, A12⟩, hc13, h⟩ := Option.bind_eq_some_iff.mp h
        have fI11 : Fc pR I I11 := Fc_tr fI (fr_X7_opens I A10 a1 (A 337 a2.toNatClampNeg) 1 I11 A12 hc13).1
        have fA12 : Fc pR A A12 := Fc_tr fA10 (fr_X7_opens I A10 a1 (A 337 a2.toNatClampNeg) 1 I11 A12 hc13).2
        cases h; exact ⟨fI11, fA12⟩
    · have h := iN c_4 h
      obtain ⟨A5, eA5, h⟩ := bd_e h
      have fA5 : Fc pR A A5 := by rw [eA5]; exact Fc_up fA3 (show ¬ 334 < 318 by decide)
      obtain ⟨⟨I6, A7⟩, hc8, h⟩ := Option.bind_eq_some_iff.mp h
      have fI6 : Fc pR I I6 := Fc_tr fI (fr_X7_opens I A5 a1 (A 337 a2.toNatClampNeg) 1 I6 A7 hc8).1
      have fA7 : Fc pR A A7 := Fc_tr fA5 (fr_X7_opens I A5 a1 (A 337 a2.toNatClampNeg) 1 I6 A7 hc8).2
      cases h; exact ⟨fI6, fA7⟩
set_option maxHeartbeats 4000000 in
set_option maxRecDepth 100000 in
theorem fr_X7_walks (I : Nat → Nat → Int32) (A : Nat → Nat → Int32) (a1 : Int32) (r0 : Int32) (I0 : Nat → Nat → Int32) (A0 : Nat → Nat → Int32) (h : f_X7_walks I A a1 = some (r0, I0, A0)) : Fc pR I I0 ∧ Fc pR A A0 := by
  have fI : Fc pR I I := Fc_rf
  have fA : Fc pR A A := Fc_rf
  rw [f_X7_walks] at h
  obtain ⟨r1, hc2, h⟩ := Option.bind_eq_some_iff.mp h
  obtain ⟨k7, ek7, h⟩ := bd_e h
  have kk7 : ∀ (I8 : Nat → Nat → Int32) (A9 : Nat → Nat → Int32), k7 I8 A9 = some (r0, I0, A0) → Fc pR I I8 → Fc pR A A9 → Fc pR I I0 ∧ Fc pR A A0 := by
    intro I8 A9 h fI8 fA9
    subst ek7
    cases h; exact ⟨fI8, fA9⟩
  obtain ⟨k10, ek10, h⟩ := bd_e h
  have kk10 : ∀ (I11 : Nat → Nat → Int32) (A12 : Nat → Nat → Int32), k10 I11 A12 = some (r0, I0, A0) → Fc pR I I11 → Fc pR A A12 → Fc pR I I0 ∧ Fc pR A A0 := by
    intro I11 A12 h fI11 fA12
    subst ek10
    cases h; exact ⟨fI11, fA12⟩
  obtain ⟨k13, ek13, h⟩ := bd_e h
  have kk13 : ∀ (I14 : Nat → Nat → Int32) (A15 : Nat → Nat → Int32), k13 I14 A15 = some (r0, I0, A0) → Fc pR I I14 → Fc pR A A15 → Fc pR I I0 ∧ Fc pR A A0 := by
    intro I14 A15 h fI14 fA15
    subst ek13
    cases h; exact ⟨fI14, fA15⟩
  obtain ⟨k16, ek16, h⟩ := bd_e h
  have kk16 : ∀ (v17 : Int32) (I18 : Nat → Nat → Int32) (A19 : Nat → Nat → Int32), k16 v17 I18 A19 = some (r0, I0, A0) → Fc pR I I18 → Fc pR A A19 → Fc pR I I0 ∧ Fc pR A A0 := by
    intro v17 I18 A19 h fI18 fA19
    subst ek16
    by_cases c_20 : v17 = (-9)
    · have h := ip c_20 h
      cases h; exact ⟨fI18, fA19⟩
    · have h := iN c_20 h
      cases h; exact ⟨fI18, fA19⟩
  have lp3 : ∀ (n : Nat) (v4 : Int32) (I5 : Nat → Nat → Int32) (A6 : Nat → Nat → Int32), f_X7_walks_L5 a1 k7 k10 k13 k16 n v4 I5 A6 = some (r0, I0, A0) → Fc pR I I5 → Fc pR A A6 → Fc pR I I0 ∧ Fc pR A A0 := by
    intro n
    induction n with
    | zero => intro v4 I5 A6 h; exact absurd h (by rw [f_X7_walks_L5]; exact nofun)
    | succ n ih3 =>
      intro v4 I5 A6 h fI5 fA6
      rw [f_X7_walks_L5] at h
      by_cases c_21 : v4 = (-9)
      · have h := ip c_21 h
        exact kk16 v4 I5 A6 h fI5 fA6
      · have h := iN c_21 h
        obtain ⟨hn22, h⟩ := gk h
        by_cases c_23 : (A6 344 v4.toNatClampNeg) = 0
        · have h := ip c_23 h
          exact kk16 v4 I5 A6 h fI5 fA6
        · have h := iN c_23 h
          obtain ⟨⟨I24, A25⟩, hc26, h⟩ := Option.bind_eq_some_iff.mp h
          have fI24 : Fc pR I I24 := Fc_tr fI5 (fr_X7_takes I5 A6 v4 I24 A25 hc26).1
          have fA25 : Fc pR A A25 := Fc_tr fA6 (fr_X7_takes I5 A6 v4 I24 A25 hc26).2
          obtain ⟨hn27, h⟩ := gk h
          by_cases c_28 : (A25 338 v4.toNatClampNeg) = (A25 319 a1.toNatClampNeg)
          · have h := ip c_28 h
            exact kk7 I24 A25 h fI24 fA25
          · have h := iN c_28 h
            by_cases c_29 : (I24 318 31) = 250
            · have h := ip c_29 h
              exact kk10 I24 A25 h fI24 fA25
            · have h := iN c_29 h
              by_cases c_30 : (I24 318 31) = (I24 318 24)
              · have h := ip c_30 h
                exact kk13 I24 A25 h fI24 fA25
              · have h := iN c_30 h
                obtain ⟨r31, hc32, h⟩ := Option.bind_eq_some_iff.mp h
                exact ih3 r31 I24 A25 h fI24 fA25
  exact lp3 FU r1 I A h fI fA
set_option maxHeartbeats 4000000 in
set_option maxRecDepth 100000 in
theorem fr_X7_solve (I : Nat → Nat → Int32) (A : Nat → Nat → Int32) (a1 : Int32) (a2 : Int32) (r0 : Int32) (I0 : Nat → Nat → Int32) (A0 : Nat → Nat → Int32) (h : f_X7_solve I A a1 a2 = some (r0, I0, A0)) : Fc pR I I0 ∧ Fc pR A A0 := by
  have fI : Fc pR I I := Fc_rf
  have fA : Fc pR A A := Fc_rf
  rw [f_X7_solve] at h
  obtain ⟨I1, eI1, h⟩ := bd_e h
  have fI1 : Fc pR I I1 := by rw [eI1]; exact Fc_up fI (show ¬ 318 < 318 by decide)
  obtain ⟨r2, hc3, h⟩ := Option.bind_eq_some_iff.mp h
  by_cases c_4 : r2 = 0
  · have h := ip c_4 h
    cases h; exact ⟨fI1, fA⟩
  · have h := iN c_4 h
    obtain ⟨r5, hc6, h⟩ := Option.bind_eq_some_iff.mp h
    by_cases c_7 : r5 = 0
    · have h := ip c_7 h
      cases h; exact ⟨fI1, fA⟩
    · have h := iN c_7 h
      obtain ⟨j9, ej9, h⟩ := bd_e h
      have kj9 : ∀ (_ : Unit), j9 () = some (r0, I0, A0) → Fc pR I I0 ∧ Fc pR A A0 := by
        intro _ h
        subst ej9
        obtain ⟨j33, ej33, h⟩ := bd_e h
        have kj33 : ∀ (I31 : Nat → Nat → Int32) (A32 : Nat → Nat → Int32), j33 I31 A32 = some (r0, I0, A0) → Fc pR I I31 → Fc pR A A32 → Fc pR I I0 ∧ Fc pR A A0 := by
          intro I31 A32 h fI31 fA32
          subst ej33
          obtain ⟨k38, ek38, h⟩ := bd_e h
          have kk38 : ∀ (v39 : Int32) (I40 : Nat → Nat → Int32) (A41 : Nat → Nat → Int32), k38 v39 I40 A41 = some (r0, I0, A0) → Fc pR I I40 → Fc pR A A41 → Fc pR I I0 ∧ Fc pR A A0 := by
            intro v39 I40 A41 h fI40 fA41
            subst ek38
            obtain ⟨⟨I42, A43⟩, hc44, h⟩ := Option.bind_eq_some_iff.mp h
            have fI42 : Fc pR I I42 := Fc_tr fI40 (fr_X7_endsAs I40 A41 a1 v39 I42 A43 hc44).1
            have fA43 : Fc pR A A43 := Fc_tr fA41 (fr_X7_endsAs I40 A41 a1 v39 I42 A43 hc44).2
            cases h; exact ⟨fI42, fA43⟩
          obtain ⟨k45, ek45, h⟩ := bd_e h
          have kk45 : ∀ (I46 : Nat → Nat → Int32) (A47 : Nat → Nat → Int32), k45 I46 A47 = some (r0, I0, A0) → Fc pR I I46 → Fc pR A A47 → Fc pR I I0 ∧ Fc pR A A0 := by
            intro I46 A47 h fI46 fA47
            subst ek45
            cases h; exact ⟨fI46, fA47⟩
          have lp34 : ∀ (n : Nat) (v35 : Int32) (I36 : Nat → Nat → Int32) (A37 : Nat → Nat → Int32), f_X7_solve_L143 a1 a2 k38 k45 n v35 I36 A37 = some (r0, I0, A0) → Fc pR I I36 → Fc pR A A37 → Fc pR I I0 ∧ Fc pR A A0 := by
            intro n
            induction n with
            | zero => intro v35 I36 A37 h; exact absurd h (by rw [f_X7_solve_L143]; exact nofun)
            | succ n ih34 =>
              intro v35 I36 A37 h fI36 fA37
              rw [f_X7_solve_L143] at h
              by_cases c_48 : v35 < a2
              · have h := ip c_48 h
                obtain ⟨j52, ej52, h⟩ := bd_e h
                have kj52 : ∀ (z51 : Int32), j52 z51 = some (r0, I0, A0) → Fc pR I I0 ∧ Fc pR A A0 := by
                  intro z51 h
                  subst ej52
                  obtain ⟨I53, eI53, h⟩ := bd_e h
                  have fI53 : Fc pR I I53 := by rw [eI53]; exact Fc_up fI36 (show ¬ 318 < 318 by decide)
                  by_cases c_54 : z51 < (I53 318 15)
                  · have h := ip c_54 h
                    obtain ⟨⟨I63, A64⟩, hc65, h⟩ := Option.bind_eq_some_iff.mp h
                    have fI63 : Fc pR I I63 := Fc_tr fI53 (fr_X7_turnOf I53 A37 a1 z51 I63 A64 hc65).1
                    have fA64 : Fc pR A A64 := Fc_tr fA37 (fr_X7_turnOf I53 A37 a1 z51 I63 A64 hc65).2
                    obtain ⟨⟨r66, I67, A68⟩, hc69, h⟩ := Option.bind_eq_some_iff.mp h
                    have fI67 : Fc pR I I67 := Fc_tr fI63 (fr_X7_walks I63 A64 a1 r66 I67 A68 hc69).1
                    have fA68 : Fc pR A A68 := Fc_tr fA64 (fr_X7_walks I63 A64 a1 r66 I67 A68 hc69).2
                    by_cases c_70 : 0 < r66
                    · have h := ip c_70 h
                      exact kk38 r66 I67 A68 h fI67 fA68
                    · have h := iN c_70 h
                      exact ih34 (v35 + 1) I67 A68 h fI67 fA68
                  · have h := iN c_54 h
                    obtain ⟨⟨I55, A56⟩, hc57, h⟩ := Option.bind_eq_some_iff.mp h
                    have fI55 : Fc pR I I55 := Fc_tr fI53 (fr_X7_turnOf I53 A37 a1 0 I55 A56 hc57).1
                    have fA56 : Fc pR A A56 := Fc_tr fA37 (fr_X7_turnOf I53 A37 a1 0 I55 A56 hc57).2
                    obtain ⟨⟨r58, I59, A60⟩, hc61, h⟩ := Option.bind_eq_some_iff.mp h
                    have fI59 : Fc pR I I59 := Fc_tr fI55 (fr_X7_walks I55 A56 a1 r58 I59 A60 hc61).1
                    have fA60 : Fc pR A A60 := Fc_tr fA56 (fr_X7_walks I55 A56 a1 r58 I59 A60 hc61).2
                    by_cases c_62 : 0 < r58
                    · have h := ip c_62 h
                      exact kk38 r58 I59 A60 h fI59 fA60
                    · have h := iN c_62 h
                      exact ih34 (v35 + 1) I59 A60 h fI59 fA60
                by_cases c_71 : (I36 318 28) < (I36 318 18)
                · have h := ip c_71 h
                  obtain ⟨hn73, h⟩ := gk h
                  exact kj52 (A37 331 ((I36 318 28).toNatClampNeg)) h
                · have h := iN c_71 h
                  obtain ⟨hz72, h⟩ := gk h
                  exact kj52 (((I36 318 28) - (I36 318 18)) - ((I36 318 28) - (I36 318 18)) / (I36 318 15) * (I36 318 15)) h
              · have h := iN c_48 h
                exact kk45 I36 A37 h fI36 fA37
          exact lp34 FU 0 I31 A32 h fI31 fA32
        by_cases c_74 : (I1 318 23) = (-9)
        · have h := ip c_74 h
          obtain ⟨I75, eI75, h⟩ := bd_e h
          have fI75 : Fc pR I I75 := by rw [eI75]; exact Fc_up fI1 (show ¬ 318 < 318 by decide)
          obtain ⟨I76, eI76, h⟩ := bd_e h
          have fI76 : Fc pR I I76 := by rw [eI76]; exact Fc_up fI75 (show ¬ 318 < 318 by decide)
          obtain ⟨I77, eI77, h⟩ := bd_e h
          have fI77 : Fc pR I I77 := by rw [eI77]; exact Fc_up fI76 (show ¬ 318 < 318 by decide)
          obtain ⟨k81, ek81, h⟩ := bd_e h
          have kk81 : ∀ (A82 : Nat → Nat → Int32), k81 A82 = some (r0, I0, A0) → Fc pR A A82 → Fc pR I I0 ∧ Fc pR A A0 := by
            intro A82 h fA82
            subst ek81
            obtain ⟨⟨I83, A84⟩, hc85, h⟩ := Option.bind_eq_some_iff.mp h
            have fI83 : Fc pR I I83 := Fc_tr fI77 (fr_X7_begins I77 A82 a1 1 I83 A84 hc85).1
            have fA84 : Fc pR A A84 := Fc_tr fA82 (fr_X7_begins I77 A82 a1 1 I83 A84 hc85).2
            by_cases c_86 : (I83 318 29) = 0
            · have h := ip c_86 h
              obtain ⟨⟨I87, A88⟩, hc89, h⟩ := Option.bind_eq_some_iff.mp h
              have fI87 : Fc pR I I87 := Fc_tr fI83 (fr_X7_endsAs I83 A84 a1 2 I87 A88 hc89).1
              have fA88 : Fc pR A A88 := Fc_tr fA84 (fr_X7_endsAs I83 A84 a1 2 I87 A88 hc89).2
              cases h; exact ⟨fI87, fA88⟩
            · have h := iN c_86 h
              exact kj33 I83 A84 h fI83 fA84
          have lp78 : ∀ (n : Nat) (v79 : Int32) (A80 : Nat → Nat → Int32), f_X7_solve_L75 a1 a2 I77 k81 n v79 A80 = some (r0, I0, A0) → Fc pR A A80 → Fc pR I I0 ∧ Fc pR A A0 := by
            intro n
            induction n with
            | zero => intro v79 A80 h; exact absurd h (by rw [f_X7_solve_L75]; exact nofun)
            | succ n ih78 =>
              intro v79 A80 h fA80
              rw [f_X7_solve_L75] at h
              by_cases c_90 : v79 < 5
              · have h := ip c_90 h
                obtain ⟨hn91, h⟩ := gk h
                obtain ⟨A92, eA92, h⟩ := bd_e h
                have fA92 : Fc pR A A92 := by rw [eA92]; exact Fc_up fA80 (show ¬ 335 < 318 by decide)
                obtain ⟨A93, eA93, h⟩ := bd_e h
                have fA93 : Fc pR A A93 := by rw [eA93]; exact Fc_up fA92 (show ¬ 336 < 318 by decide)
                obtain ⟨A94, eA94, h⟩ := bd_e h
                have fA94 : Fc pR A A94 := by rw [eA94]; exact Fc_up fA93 (show ¬ 334 < 318 by decide)
                obtain ⟨A95, eA95, h⟩ := bd_e h
                have fA95 : Fc pR A A95 := by rw [eA95]; exact Fc_up fA94 (show ¬ 337 < 318 by decide)
                exact ih78 (v79 + 1) A95 h fA95
              · have h := iN c_90 h
                exact kk81 A80 h fA80
          exact lp78 FU 0 A h fA
        · have h := iN c_74 h
          exact kj33 I1 A h fI1 fA
      by_cases c_96 : (I1 318 23) = (-9)
      · have h := ip c_96 h
        exact kj9 () h
      · have h := iN c_96 h
        by_cases c_97 : (I1 318 23) = a1
        · have h := ip c_97 h
          exact kj9 () h
        · have h := iN c_97 h
          cases h; exact ⟨fI1, fA⟩
set_option maxHeartbeats 4000000 in
set_option maxRecDepth 100000 in
theorem fr_X7_status (I : Nat → Nat → Int32) (r0 : Int32) (I0 : Nat → Nat → Int32) (h : f_X7_status I = some (r0, I0)) : Fc pR I I0 := by
  have fI : Fc pR I I := Fc_rf
  rw [f_X7_status] at h
  obtain ⟨I1, eI1, h⟩ := bd_e h
  have fI1 : Fc pR I I1 := by rw [eI1]; exact Fc_up fI (show ¬ 318 < 318 by decide)
  cases h; exact fI1
set_option maxHeartbeats 4000000 in
set_option maxRecDepth 100000 in
theorem fr_X7_told (I : Nat → Nat → Int32) (A : Nat → Nat → Int32) (a1 : Int32) (a2 : Int32) (r0 : Int32) (I0 : Nat → Nat → Int32) (h : f_X7_told I A a1 a2 = some (r0, I0)) : Fc pR I I0 := by
  have fI : Fc pR I I := Fc_rf
  have fA : Fc pR A A := Fc_rf
  rw [f_X7_told] at h
  obtain ⟨I1, eI1, h⟩ := bd_e h
  have fI1 : Fc pR I I1 := by rw [eI1]; exact Fc_up fI (show ¬ 318 < 318 by decide)
  obtain ⟨r2, hc3, h⟩ := Option.bind_eq_some_iff.mp h
  by_cases c_4 : r2 = 0
  · have h := ip c_4 h
    cases h; exact fI1
  · have h := iN c_4 h
    obtain ⟨r5, hc6, h⟩ := Option.bind_eq_some_iff.mp h
    by_cases c_7 : r5 = 0
    · have h := ip c_7 h
      cases h; exact fI1
    · have h := iN c_7 h
      obtain ⟨hn8, h⟩ := gk h
      by_cases c_9 : (A 351 a1.toNatClampNeg) = 0
      · have h := ip c_9 h
        cases h; exact fI1
      · have h := iN c_9 h
        obtain ⟨hn10, h⟩ := gk h
        cases h; exact fI1
set_option maxHeartbeats 4000000 in
set_option maxRecDepth 100000 in
theorem fr_X7_turn (I : Nat → Nat → Int32) (A : Nat → Nat → Int32) (a1 : Int32) (r0 : Int32) (I0 : Nat → Nat → Int32) (A0 : Nat → Nat → Int32) (h : f_X7_turn I A a1 = some (r0, I0, A0)) : Fc pR I I0 ∧ Fc pR A A0 := by
  have fI : Fc pR I I := Fc_rf
  have fA : Fc pR A A := Fc_rf
  rw [f_X7_turn] at h
  obtain ⟨I1, eI1, h⟩ := bd_e h
  have fI1 : Fc pR I I1 := by rw [eI1]; exact Fc_up fI (show ¬ 318 < 318 by decide)
  obtain ⟨r2, hc3, h⟩ := Option.bind_eq_some_iff.mp h
  by_cases c_4 : r2 = 0
  · have h := ip c_4 h
    cases h; exact ⟨fI1, fA⟩
  · have h := iN c_4 h
    by_cases c_5 : (I1 318 23) = (-9)
    · have h := ip c_5 h
      by_cases c_6 : (I1 318 18) = 200
      · have h := ip c_6 h
        cases h; exact ⟨fI1, fA⟩
      · have h := iN c_6 h
        obtain ⟨hn7, h⟩ := gk h
        obtain ⟨A8, eA8, h⟩ := bd_e h
        have fA8 : Fc pR A A8 := by rw [eA8]; exact Fc_up fA (show ¬ 331 < 318 by decide)
        obtain ⟨I9, eI9, h⟩ := bd_e h
        have fI9 : Fc pR I I9 := by rw [eI9]; exact Fc_up fI1 (show ¬ 318 < 318 by decide)
        cases h; exact ⟨fI9, fA8⟩
    · have h := iN c_5 h
      cases h; exact ⟨fI1, fA⟩
set_option maxHeartbeats 4000000 in
set_option maxRecDepth 100000 in
theorem fr_X7_variable (I : Nat → Nat → Int32) (A : Nat → Nat → Int32) (a1 : Int32) (a2 : Int32) (a3 : Int32) (r0 : Int32) (I0 : Nat → Nat → Int32) (A0 : Nat → Nat → Int32) (h : f_X7_variable I A a1 a2 a3 = some (r0, I0, A0)) : Fc pR I I0 ∧ Fc pR A A0 := by
  have fI : Fc pR I I := Fc_rf
  have fA : Fc pR A A := Fc_rf
  rw [f_X7_variable] at h
  obtain ⟨I1, eI1, h⟩ := bd_e h
  have fI1 : Fc pR I I1 := by rw [eI1]; exact Fc_up fI (show ¬ 318 < 318 by decide)
  obtain ⟨r2, hc3, h⟩ := Option.bind_eq_some_iff.mp h
  by_cases c_4 : r2 = 0
  · have h := ip c_4 h
    cases h; exact ⟨fI1, fA⟩
  · have h := iN c_4 h
    obtain ⟨r5, hc6, h⟩ := Option.bind_eq_some_iff.mp h
    by_cases c_7 : r5 = 0
    · have h := ip c_7 h
      cases h; exact ⟨fI1, fA⟩
    · have h := iN c_7 h
      obtain ⟨r8, hc9, h⟩ := Option.bind_eq_some_iff.mp h
      by_cases c_10 : r8 = 0
      · have h := ip c_10 h
        cases h; exact ⟨fI1, fA⟩
      · have h := iN c_10 h
        by_cases c_11 : (I1 318 23) = (-9)
        · have h := ip c_11 h
          obtain ⟨hn12, h⟩ := gk h
          by_cases c_13 : (A 319 a1.toNatClampNeg) = 6
          · have h := ip c_13 h
            cases h; exact ⟨fI1, fA⟩
          · have h := iN c_13 h
            obtain ⟨hn14, h⟩ := gk h
            obtain ⟨A15, eA15, h⟩ := bd_e h
            have fA15 : Fc pR A A15 := by rw [eA15]; exact Fc_up fA (show ¬ 321 < 318 by decide)
            obtain ⟨A16, eA16, h⟩ := bd_e h
            have fA16 : Fc pR A A16 := by rw [eA16]; exact Fc_up fA15 (show ¬ 322 < 318 by decide)
            obtain ⟨A17, eA17, h⟩ := bd_e h
            have fA17 : Fc pR A A17 := by rw [eA17]; exact Fc_up fA16 (show ¬ 319 < 318 by decide)
            obtain ⟨⟨I18, A19⟩, hc20, h⟩ := Option.bind_eq_some_iff.mp h
            have fI18 : Fc pR I I18 := Fc_tr fI1 (fr_X7_changes I1 A17 a1 I18 A19 hc20).1
            have fA19 : Fc pR A A19 := Fc_tr fA17 (fr_X7_changes I1 A17 a1 I18 A19 hc20).2
            cases h; exact ⟨fI18, fA19⟩
        · have h := iN c_11 h
          cases h; exact ⟨fI1, fA⟩
set_option maxHeartbeats 4000000 in
set_option maxRecDepth 100000 in
theorem fr_X7_walked (I : Nat → Nat → Int32) (A : Nat → Nat → Int32) (a1 : Int32) (a2 : Int32) (r0 : Int32) (I0 : Nat → Nat → Int32) (h : f_X7_walked I A a1 a2 = some (r0, I0)) : Fc pR I I0 := by
  have fI : Fc pR I I := Fc_rf
  have fA : Fc pR A A := Fc_rf
  rw [f_X7_walked] at h
  obtain ⟨I1, eI1, h⟩ := bd_e h
  have fI1 : Fc pR I I1 := by rw [eI1]; exact Fc_up fI (show ¬ 318 < 318 by decide)
  obtain ⟨r2, hc3, h⟩ := Option.bind_eq_some_iff.mp h
  by_cases c_4 : r2 = 0
  · have h := ip c_4 h
    cases h; exact fI1
  · have h := iN c_4 h
    obtain ⟨r5, hc6, h⟩ := Option.bind_eq_some_iff.mp h
    by_cases c_7 : r5 = 0
    · have h := ip c_7 h
      cases h; exact fI1
    · have h := iN c_7 h
      by_cases c_8 : a2 = 0
      · have h := ip c_8 h
        obtain ⟨hn16, h⟩ := gk h
        cases h; exact fI1
      · have h := iN c_8 h
        by_cases c_9 : a2 < 7
        · have h := ip c_9 h
          obtain ⟨hn15, h⟩ := gk h
          cases h; exact fI1
        · have h := iN c_9 h
          by_cases c_10 : a2 = 7
          · have h := ip c_10 h
            obtain ⟨hn14, h⟩ := gk h
            cases h; exact fI1
          · have h := iN c_10 h
            by_cases c_11 : a2 = 8
            · have h := ip c_11 h
              obtain ⟨hn13, h⟩ := gk h
              cases h; exact fI1
            · have h := iN c_11 h
              obtain ⟨hn12, h⟩ := gk h
              cases h; exact fI1
set_option maxHeartbeats 4000000 in
set_option maxRecDepth 100000 in
theorem fr_X7_with (I : Nat → Nat → Int32) (A : Nat → Nat → Int32) (a1 : Int32) (r0 : Int32) (I0 : Nat → Nat → Int32) (A0 : Nat → Nat → Int32) (h : f_X7_with I A a1 = some (r0, I0, A0)) : Fc pR I I0 ∧ Fc pR A A0 := by
  have fI : Fc pR I I := Fc_rf
  have fA : Fc pR A A := Fc_rf
  rw [f_X7_with] at h
  obtain ⟨I1, eI1, h⟩ := bd_e h
  have fI1 : Fc pR I I1 := by rw [eI1]; exact Fc_up fI (show ¬ 318 < 318 by decide)
  by_cases c_2 : (I1 318 57) = (-9)
  · have h := ip c_2 h
    cases h; exact ⟨fI1, fA⟩
  · have h := iN c_2 h
    obtain ⟨hn3, h⟩ := gk h
    by_cases c_4 : (I1 318 59) = (A 319 ((I1 318 57).toNatClampNeg))
    · have h := ip c_4 h
      cases h; exact ⟨fI1, fA⟩
    · have h := iN c_4 h
      obtain ⟨hn5, h⟩ := gk h
      obtain ⟨r6, hc7, h⟩ := Option.bind_eq_some_iff.mp h
      by_cases c_8 : r6 = 0
      · have h := ip c_8 h
        cases h; exact ⟨fI1, fA⟩
      · have h := iN c_8 h
        obtain ⟨hn9, h⟩ := gk h
        obtain ⟨A10, eA10, h⟩ := bd_e h
        have fA10 : Fc pR A A10 := by rw [eA10]; exact Fc_up fA (show ¬ 362 < 318 by decide)
        obtain ⟨I11, eI11, h⟩ := bd_e h
        have fI11 : Fc pR I I11 := by rw [eI11]; exact Fc_up fI1 (show ¬ 318 < 318 by decide)
        cases h; exact ⟨fI11, fA10⟩

/-! part 48.frc -/
theorem tr58 {T : Nat} (h : TrAt T) : T + 11 < 58 := by rcases h with h | h | h <;> omega
theorem fr_J7_fill_53178 (A : Nat → Nat → Int32) (s0 : Nat) (a1 : Int32) (A0 : Nat → Nat → Int32) (h : f_J7_fill_53178 A s0 a1 = some A0) : Fc pC A A0 := by
  unfold f_J7_fill_53178 at h
  obtain ⟨⟨h1, h2, h3⟩, h⟩ := gk h
  cases h
  intro j hj
  have hj : 318 ≤ j := hj
  funext b
  unfold fil
  rw [if_neg (fun e => by omega)]
theorem fr_X0_look (I : Nat → Nat → Int32) (A : Nat → Nat → Int32) (o s1 s2 : Nat) (a3 a4 : Int32) (I0 : Nat → Nat → Int32) (h : f_X0_look I A o s1 s2 a3 a4 = some I0) : Fc pC I I0 := by
  unfold f_X0_look at h
  obtain ⟨h1, h⟩ := gk h
  have ho := h1.1.1
  cases h
  have hn : ¬ pC o := fun e => by have e : 318 ≤ o := e; omega
  exact Fc_up (Fc_up (Fc_up Fc_rf hn) hn) hn
theorem fr_X5_copyValues (A : Nat → Nat → Int32) (L : Nat → Nat → Int64) (o : Nat) (a1 : Int32) (s2 : Nat) (a3 : Int32) (A0 : Nat → Nat → Int32) (h : f_X5_copyValues A L o a1 s2 a3 = some A0) : Fc pC A A0 := by
  unfold f_X5_copyValues at h
  obtain ⟨⟨h1, h2, h3, h4, h5, h6, h7, h8, h9, h10⟩, h⟩ := gk h
  cases h
  intro j hj
  have hj : 318 ≤ j := hj
  funext b
  unfold cpy
  rw [if_neg (fun e => by omega)]
theorem fr_X5_take (I : Nat → Nat → Int32) (G : Nat → Nat → Nat) (A : Nat → Nat → Int32) (o : Nat) (a1 : Int32) (I0 : Nat → Nat → Int32) (A0 : Nat → Nat → Int32) (h : f_X5_take I G A o a1 = some (I0, A0)) : Fc pC I I0 ∧ Fc pC A A0 := by
  unfold f_X5_take at h
  obtain ⟨h1, h⟩ := gk h
  have ho := tr58 h1.1
  cases h
  refine ⟨Fc_up Fc_rf (fun e => by have e : 318 ≤ o := e; omega), ?_⟩
  intro j hj
  have hj : 318 ≤ j := hj
  funext b
  rw [rea_j (by omega), tkA_j (by omega) (by omega)]
set_option maxHeartbeats 4000000 in
set_option maxRecDepth 100000 in
theorem fr_X6_grant (I : Nat → Nat → Int32) (a1 : Int32) (r0 : Int32) (I0 : Nat → Nat → Int32) (h : f_X6_grant I a1 = some (r0, I0)) : Fc pC I I0 := by
  have fI : Fc pC I I := Fc_rf
  rw [f_X6_grant] at h
  obtain ⟨I1, eI1, h⟩ := bd_e h
  have fI1 : Fc pC I I1 := by rw [eI1]; exact Fc_up fI (show ¬ 318 ≤ 0 by decide)
  cases h; exact fI1
set_option maxHeartbeats 4000000 in
set_option maxRecDepth 100000 in
theorem fr_X6_refuse (I : Nat → Nat → Int32) (a1 : Int32) (r0 : Int32) (I0 : Nat → Nat → Int32) (h : f_X6_refuse I a1 = some (r0, I0)) : Fc pC I I0 := by
  have fI : Fc pC I I := Fc_rf
  rw [f_X6_refuse] at h
  obtain ⟨I1, eI1, h⟩ := bd_e h
  have fI1 : Fc pC I I1 := by rw [eI1]; exact Fc_up fI (show ¬ 318 ≤ 0 by decide)
  cases h; exact fI1
set_option maxHeartbeats 4000000 in
set_option maxRecDepth 100000 in
theorem fr_X6_about (I : Nat → Nat → Int32) (A : Nat → Nat → Int32) (a1 : Int32) (a2 : Int32) (a3 : Int32) (r0 : Int32) (I0 : Nat → Nat → Int32) (h : f_X6_about I A a1 a2 a3 = some (r0, I0)) : Fc pC I I0 := by
  have fI : Fc pC I I := Fc_rf
  have fA : Fc pC A A := Fc_rf
  rw [f_X6_about] at h
  obtain ⟨r1, hc2, h⟩ := Option.bind_eq_some_iff.mp h
  by_cases c_3 : r1 = 0
  · have h := ip c_3 h
    obtain ⟨⟨r4, I5⟩, hc6, h⟩ := Option.bind_eq_some_iff.mp h
    have fI5 : Fc pC I I5 := Fc_tr fI (fr_X6_refuse I (-1) r4 I5 hc6)
    cases h; exact fI5
  · have h := iN c_3 h
    obtain ⟨r7, hc8, h⟩ := Option.bind_eq_some_iff.mp h
    by_cases c_9 : r7 = 0
    · have h := ip c_9 h
      obtain ⟨⟨r55, I56⟩, hc57, h⟩ := Option.bind_eq_some_iff.mp h
      have fI56 : Fc pC I I56 := Fc_tr fI (fr_X6_refuse I (-1) r55 I56 hc57)
      cases h; exact fI56
    · have h := iN c_9 h
      obtain ⟨hn10, h⟩ := gk h
      by_cases c_11 : a2 = 0
      · have h := ip c_11 h
        obtain ⟨hk51, h⟩ := gk h
        obtain ⟨⟨r52, I53⟩, hc54, h⟩ := Option.bind_eq_some_iff.mp h
        have fI53 : Fc pC I I53 := Fc_tr fI (fr_X6_grant I (I (58 + 52 * a1.toNatClampNeg) 0) r52 I53 hc54)
        cases h; exact fI53
      · have h := iN c_11 h
        by_cases c_12 : a2 = 1
        · have h := ip c_12 h
          obtain ⟨hk47, h⟩ := gk h
          obtain ⟨⟨r48, I49⟩, hc50, h⟩ := Option.bind_eq_some_iff.mp h
          have fI49 : Fc pC I I49 := Fc_tr fI (fr_X6_grant I (I (58 + 52 * a1.toNatClampNeg) 1) r48 I49 hc50)
          cases h; exact fI49
        · have h := iN c_12 h
          by_cases c_13 : 4 < a2
          · have h := ip c_13 h
            obtain ⟨hk14, h⟩ := gk h
            obtain ⟨r15, hc16, h⟩ := Option.bind_eq_some_iff.mp h
            by_cases c_17 : r15 = 0
            · have h := ip c_17 h
              obtain ⟨⟨r29, I30⟩, hc31, h⟩ := Option.bind_eq_some_iff.mp h
              have fI30 : Fc pC I I30 := Fc_tr fI (fr_X6_refuse I (-1) r29 I30 hc31)
              cases h; exact fI30
            · have h := iN c_17 h
              by_cases c_18 : a2 = 5
              · have h := ip c_18 h
                obtain ⟨hk24, h⟩ := gk h
                obtain ⟨hn25, h⟩ := gk h
                obtain ⟨⟨r26, I27⟩, hc28, h⟩ := Option.bind_eq_some_iff.mp h
                have fI27 : Fc pC I I27 := Fc_tr fI (fr_X6_grant I (A (58 + 52 * a1.toNatClampNeg + 1) a3.toNatClampNeg) r26 I27 hc28)
                cases h; exact fI27
              · have h := iN c_18 h
                obtain ⟨hk19, h⟩ := gk h
                obtain ⟨hn20, h⟩ := gk h
                obtain ⟨⟨r21, I22⟩, hc23, h⟩ := Option.bind_eq_some_iff.mp h
                have fI22 : Fc pC I I22 := Fc_tr fI (fr_X6_grant I (A (58 + 52 * a1.toNatClampNeg + 2) a3.toNatClampNeg) r21 I22 hc23)
                cases h; exact fI22
          · have h := iN c_13 h
            obtain ⟨hk32, h⟩ := gk h
            obtain ⟨r33, hc34, h⟩ := Option.bind_eq_some_iff.mp h
            by_cases c_35 : r33 = 0
            · have h := ip c_35 h
              obtain ⟨⟨r36, I37⟩, hc38, h⟩ := Option.bind_eq_some_iff.mp h
              have fI37 : Fc pC I I37 := Fc_tr fI (fr_X6_refuse I (-1) r36 I37 hc38)
              cases h; exact fI37
            · have h := iN c_35 h
              obtain ⟨hk39, h⟩ := gk h
              obtain ⟨hn40, h⟩ := gk h
              obtain ⟨hk41, h⟩ := gk h
              obtain ⟨r42, hc43, h⟩ := Option.bind_eq_some_iff.mp h
              obtain ⟨⟨r44, I45⟩, hc46, h⟩ := Option.bind_eq_some_iff.mp h
              have fI45 : Fc pC I I45 := Fc_tr fI (fr_X6_grant I r42 r44 I45 hc46)
              cases h; exact fI45
set_option maxHeartbeats 4000000 in
set_option maxRecDepth 100000 in
theorem fr_X6_ask (I : Nat → Nat → Int32) (A : Nat → Nat → Int32) (a1 : Int32) (r0 : Int32) (I0 : Nat → Nat → Int32) (A0 : Nat → Nat → Int32) (h : f_X6_ask I A a1 = some (r0, I0, A0)) : Fc pC I I0 ∧ Fc pC A A0 := by
  have fI : Fc pC I I := Fc_rf
  have fA : Fc pC A A := Fc_rf
  rw [f_X6_ask] at h
  obtain ⟨r1, hc2, h⟩ := Option.bind_eq_some_iff.mp h
  by_cases c_3 : r1 = 0
  · have h := ip c_3 h
    cases h; exact ⟨fI, fA⟩
  · have h := iN c_3 h
    obtain ⟨I4, eI4, h⟩ := bd_e h
    have fI4 : Fc pC I I4 := by rw [eI4]; exact Fc_up fI (show ¬ 318 ≤ 0 by decide)
    obtain ⟨hn5, h⟩ := gk h
    obtain ⟨hk6, h⟩ := gk h
    obtain ⟨I7, eI7, h⟩ := bd_e h
    have fI7 : Fc pC I I7 := by rw [eI7]; exact Fc_up fI4 (show ¬ 318 ≤ 0 by decide)
    obtain ⟨I8, eI8, h⟩ := bd_e h
    have fI8 : Fc pC I I8 := by rw [eI8]; exact Fc_up fI7 (show ¬ 318 ≤ 0 by decide)
    obtain ⟨A9, hc10, h⟩ := Option.bind_eq_some_iff.mp h
    have fA9 : Fc pC A A9 := Fc_tr fA (fr_J7_fill_53178 A 18 (-1) A9 hc10)
    cases h; exact ⟨fI8, fA9⟩
set_option maxHeartbeats 4000000 in
set_option maxRecDepth 100000 in
theorem fr_X1_change (I : Nat → Nat → Int32) (o : Nat) (I0 : Nat → Nat → Int32) (h : f_X1_change I o = some I0) : Fc pC I I0 := by
  have fI : Fc pC I I := Fc_rf
  rw [f_X1_change] at h
  obtain ⟨hk1, h⟩ := gk h
  obtain ⟨I2, eI2, h⟩ := bd_e h
  have fI2 : Fc pC I I2 := by rw [eI2]; exact Fc_up fI (Nat.not_le.mpr hk1.1)
  obtain ⟨I3, eI3, h⟩ := bd_e h
  have fI3 : Fc pC I I3 := by rw [eI3]; exact Fc_up fI2 (Nat.not_le.mpr hk1.1)
  cases h; exact fI3
set_option maxHeartbeats 4000000 in
set_option maxRecDepth 100000 in
theorem fr_X1_setCost (I : Nat → Nat → Int32) (A : Nat → Nat → Int32) (o : Nat) (a1 : Int32) (a2 : Int32) (a3 : Int32) (r0 : Int32) (I0 : Nat → Nat → Int32) (A0 : Nat → Nat → Int32) (h : f_X1_setCost I A o a1 a2 a3 = some (r0, I0, A0)) : Fc pC I I0 ∧ Fc pC A A0 := by
  have fI : Fc pC I I := Fc_rf
  have fA : Fc pC A A := Fc_rf
  rw [f_X1_setCost] at h
  obtain ⟨hk1, h⟩ := gk h
  obtain ⟨I2, hc3, h⟩ := Option.bind_eq_some_iff.mp h
  have fI2 : Fc pC I I2 := Fc_tr fI (fr_X1_change I o I2 hc3)
  obtain ⟨hk4, h⟩ := gk h
  obtain ⟨hn5, h⟩ := gk h
  rcases sw_2 (A (o + 2) a1.toNatClampNeg) with hs6 | hs6 | hs6 | hs6
  · have h := ip hs6 h
    obtain ⟨hk7, h⟩ := gk h
    obtain ⟨hn8, h⟩ := gk h
    obtain ⟨hk9, h⟩ := gk h
    obtain ⟨hn10, h⟩ := gk h
    obtain ⟨A11, eA11, h⟩ := bd_e h
    have fA11 : Fc pC A A11 := by rw [eA11]; exact Fc_up fA (Nat.not_le.mpr hk9.1)
    cases h; exact ⟨fI2, fA11⟩
  · have h := iN (by rw [hs6]; decide) h
    have h := ip hs6 h
    obtain ⟨hk12, h⟩ := gk h
    obtain ⟨hn13, h⟩ := gk h
    obtain ⟨hk14, h⟩ := gk h
    obtain ⟨hn15, h⟩ := gk h
    obtain ⟨A16, eA16, h⟩ := bd_e h
    have fA16 : Fc pC A A16 := by rw [eA16]; exact Fc_up fA (Nat.not_le.mpr hk14.1)
    cases h; exact ⟨fI2, fA16⟩
  · have h := iN (by rw [hs6]; decide) h
    have h := iN (by rw [hs6]; decide) h
    have h := ip hs6 h
    obtain ⟨hk17, h⟩ := gk h
    obtain ⟨hn18, h⟩ := gk h
    obtain ⟨hk19, h⟩ := gk h
    obtain ⟨hn20, h⟩ := gk h
    obtain ⟨A21, eA21, h⟩ := bd_e h
    have fA21 : Fc pC A A21 := by rw [eA21]; exact Fc_up fA (Nat.not_le.mpr hk19.1)
    cases h; exact ⟨fI2, fA21⟩
  · have h := iN (fun q => by rw [q] at hs6; exact absurd hs6 (by decide)) h
    have h := iN (fun q => by rw [q] at hs6; exact absurd hs6 (by decide)) h
    have h := iN (fun q => by rw [q] at hs6; exact absurd hs6 (by decide)) h
    obtain ⟨hk22, h⟩ := gk h
    obtain ⟨hn23, h⟩ := gk h
    obtain ⟨hk24, h⟩ := gk h
    obtain ⟨hn25, h⟩ := gk h
    obtain ⟨A26, eA26, h⟩ := bd_e h
    have fA26 : Fc pC A A26 := by rw [eA26]; exact Fc_up fA (Nat.not_le.mpr hk24.1)
    cases h; exact ⟨fI2, fA26⟩
set_option maxHeartbeats 4000000 in
set_option maxRecDepth 100000 in
theorem fr_X6_cost (I : Nat → Nat → Int32) (A : Nat → Nat → Int32) (a1 : Int32) (a2 : Int32) (a3 : Int32) (a4 : Int32) (r0 : Int32) (I0 : Nat → Nat → Int32) (A0 : Nat → Nat → Int32) (h : f_X6_cost I A a1 a2 a3 a4 = some (r0, I0, A0)) : Fc pC I I0 ∧ Fc pC A A0 := by
  have fI : Fc pC I I := Fc_rf
  have fA : Fc pC A A := Fc_rf
  rw [f_X6_cost] at h
  obtain ⟨r1, hc2, h⟩ := Option.bind_eq_some_iff.mp h
  by_cases c_3 : r1 = 0
  · have h := ip c_3 h
    obtain ⟨⟨r4, I5⟩, hc6, h⟩ := Option.bind_eq_some_iff.mp h
    have fI5 : Fc pC I I5 := Fc_tr fI (fr_X6_refuse I (-1) r4 I5 hc6)
    cases h; exact ⟨fI5, fA⟩
  · have h := iN c_3 h
    obtain ⟨hn7, h⟩ := gk h
    obtain ⟨hk8, h⟩ := gk h
    obtain ⟨r9, hc10, h⟩ := Option.bind_eq_some_iff.mp h
    by_cases c_11 : r9 = 0
    · have h := ip c_11 h
      obtain ⟨⟨r12, I13⟩, hc14, h⟩ := Option.bind_eq_some_iff.mp h
      have fI13 : Fc pC I I13 := Fc_tr fI (fr_X6_refuse I (-1) r12 I13 hc14)
      cases h; exact ⟨fI13, fA⟩
    · have h := iN c_11 h
      obtain ⟨r15, hc16, h⟩ := Option.bind_eq_some_iff.mp h
      by_cases c_17 : r15 = 0
      · have h := ip c_17 h
        obtain ⟨⟨r29, I30⟩, hc31, h⟩ := Option.bind_eq_some_iff.mp h
        have fI30 : Fc pC I I30 := Fc_tr fI (fr_X6_refuse I (-1) r29 I30 hc31)
        cases h; exact ⟨fI30, fA⟩
      · have h := iN c_17 h
        by_cases c_18 : (I 0 5) = (-9)
        · have h := ip c_18 h
          obtain ⟨⟨r19, I20, A21⟩, hc22, h⟩ := Option.bind_eq_some_iff.mp h
          have fI20 : Fc pC I I20 := Fc_tr fI (fr_X1_setCost I A (58 + 52 * a1.toNatClampNeg) a2 a3 a4 r19 I20 A21 hc22).1
          have fA21 : Fc pC A A21 := Fc_tr fA (fr_X1_setCost I A (58 + 52 * a1.toNatClampNeg) a2 a3 a4 r19 I20 A21 hc22).2
          obtain ⟨⟨r23, I24⟩, hc25, h⟩ := Option.bind_eq_some_iff.mp h
          have fI24 : Fc pC I I24 := Fc_tr fI20 (fr_X6_grant I20 r19 r23 I24 hc25)
          cases h; exact ⟨fI24, fA21⟩
        · have h := iN c_18 h
          obtain ⟨⟨r26, I27⟩, hc28, h⟩ := Option.bind_eq_some_iff.mp h
          have fI27 : Fc pC I I27 := Fc_tr fI (fr_X6_refuse I (-2) r26 I27 hc28)
          cases h; exact ⟨fI27, fA⟩
set_option maxHeartbeats 4000000 in
set_option maxRecDepth 100000 in
theorem fr_X6_costs (I : Nat → Nat → Int32) (A : Nat → Nat → Int32) (a1 : Int32) (a2 : Int32) (a3 : Int32) (r0 : Int32) (I0 : Nat → Nat → Int32) (h : f_X6_costs I A a1 a2 a3 = some (r0, I0)) : Fc pC I I0 := by
  have fI : Fc pC I I := Fc_rf
  have fA : Fc pC A A := Fc_rf
  rw [f_X6_costs] at h
  obtain ⟨r1, hc2, h⟩ := Option.bind_eq_some_iff.mp h
  by_cases c_3 : r1 = 0
  · have h := ip c_3 h
    obtain ⟨⟨r4, I5⟩, hc6, h⟩ := Option.bind_eq_some_iff.mp h
    have fI5 : Fc pC I I5 := Fc_tr fI (fr_X6_refuse I (-1) r4 I5 hc6)
    cases h; exact fI5
  · have h := iN c_3 h
    obtain ⟨hn7, h⟩ := gk h
    obtain ⟨hk8, h⟩ := gk h
    obtain ⟨r9, hc10, h⟩ := Option.bind_eq_some_iff.mp h
    by_cases c_11 : r9 = 0
    · have h := ip c_11 h
      obtain ⟨⟨r19, I20⟩, hc21, h⟩ := Option.bind_eq_some_iff.mp h
      have fI20 : Fc pC I I20 := Fc_tr fI (fr_X6_refuse I (-1) r19 I20 hc21)
      cases h; exact fI20
    · have h := iN c_11 h
      obtain ⟨hk12, h⟩ := gk h
      obtain ⟨hn13, h⟩ := gk h
      obtain ⟨hk14, h⟩ := gk h
      obtain ⟨hn15, h⟩ := gk h
      obtain ⟨⟨r16, I17⟩, hc18, h⟩ := Option.bind_eq_some_iff.mp h
      have fI17 : Fc pC I I17 := Fc_tr fI (fr_X6_grant I (A (58 + 52 * a1.toNatClampNeg + 4 + a2.toNatClampNeg) a3.toNatClampNeg) r16 I17 hc18)
      cases h; exact fI17
set_option maxHeartbeats 4000000 in
set_option maxRecDepth 100000 in
theorem fr_X3_sumUp (I : Nat → Nat → Int32) (G : Nat → Nat → Nat) (A : Nat → Nat → Int32) (L : Nat → Nat → Int64) (a1 : Int32) (s2 : Nat) (A0 : Nat → Nat → Int32) (h : f_X3_sumUp I G A L a1 s2 = some A0) : Fc pC A A0 := by
  have fI : Fc pC I I := Fc_rf
  have fG : Fc pC G G := Fc_rf
  have fA : Fc pC A A := Fc_rf
  have fL : Fc pC L L := Fc_rf
  rw [f_X3_sumUp] at h
  obtain ⟨j4, ej4, h⟩ := bd_e h
  have kj4 : ∀ (z3 : Int32), j4 z3 = some A0 → Fc pC A A0 := by
    intro z3 h
    subst ej4
    obtain ⟨j12, ej12, h⟩ := bd_e h
    have kj12 : ∀ (z11 : Int32), j12 z11 = some A0 → Fc pC A A0 := by
      intro z11 h
      subst ej12
      obtain ⟨j17, ej17, h⟩ := bd_e h
      have kj17 : ∀ (z16 : Int32), j17 z16 = some A0 → Fc pC A A0 := by
        intro z16 h
        subst ej17
        obtain ⟨A18, hc19, h⟩ := Option.bind_eq_some_iff.mp h
        have fA18 : Fc pC A A18 := Fc_tr fA (fr_J7_fill_53178 A s2 (-9) A18 hc19)
        obtain ⟨hk20, h⟩ := gk h
        obtain ⟨hn21, h⟩ := gk h
        obtain ⟨A22, eA22, h⟩ := bd_e h
        have fA22 : Fc pC A A22 := by rw [eA22]; exact Fc_up fA18 (Nat.not_le.mpr hk20.1)
        obtain ⟨hk23, h⟩ := gk h
        obtain ⟨hn24, h⟩ := gk h
        obtain ⟨A25, eA25, h⟩ := bd_e h
        have fA25 : Fc pC A A25 := by rw [eA25]; exact Fc_up fA22 (Nat.not_le.mpr hk20.1)
        obtain ⟨hn26, h⟩ := gk h
        obtain ⟨A27, eA27, h⟩ := bd_e h
        have fA27 : Fc pC A A27 := by rw [eA27]; exact Fc_up fA25 (Nat.not_le.mpr hk20.1)
        obtain ⟨hn28, h⟩ := gk h
        obtain ⟨A29, eA29, h⟩ := bd_e h
        have fA29 : Fc pC A A29 := by rw [eA29]; exact Fc_up fA27 (Nat.not_le.mpr hk20.1)
        by_cases c_30 : z3 = 0
        · have h := ip c_30 h
          obtain ⟨hn31, h⟩ := gk h
          obtain ⟨A32, eA32, h⟩ := bd_e h
          have fA32 : Fc pC A A32 := by rw [eA32]; exact Fc_up fA29 (Nat.not_le.mpr hk20.1)
          obtain ⟨hn33, h⟩ := gk h
          obtain ⟨A34, eA34, h⟩ := bd_e h
          have fA34 : Fc pC A A34 := by rw [eA34]; exact Fc_up fA32 (Nat.not_le.mpr hk20.1)
          by_cases c_35 : z3 = 0
          · have h := ip c_35 h
            cases h; exact fA34
          · have h := iN c_35 h
            obtain ⟨A36, hc37, h⟩ := Option.bind_eq_some_iff.mp h
            have fA36 : Fc pC A A36 := Fc_tr fA34 (fr_X5_copyValues A34 L (G 14 0) z11 s2 6 A36 hc37)
            cases h; exact fA36
        · have h := iN c_30 h
          obtain ⟨hn38, h⟩ := gk h
          obtain ⟨A39, eA39, h⟩ := bd_e h
          have fA39 : Fc pC A A39 := by rw [eA39]; exact Fc_up fA29 (Nat.not_le.mpr hk20.1)
          obtain ⟨hn40, h⟩ := gk h
          obtain ⟨A41, eA41, h⟩ := bd_e h
          have fA41 : Fc pC A A41 := by rw [eA41]; exact Fc_up fA39 (Nat.not_le.mpr hk20.1)
          by_cases c_42 : z3 = 0
          · have h := ip c_42 h
            cases h; exact fA41
          · have h := iN c_42 h
            obtain ⟨A43, hc44, h⟩ := Option.bind_eq_some_iff.mp h
            have fA43 : Fc pC A A43 := Fc_tr fA41 (fr_X5_copyValues A41 L (G 14 0) z11 s2 6 A43 hc44)
            cases h; exact fA43
      by_cases c_45 : z11 = (-1)
      · have h := ip c_45 h
        exact kj17 (-1000000) h
      · have h := iN c_45 h
        obtain ⟨hk46, h⟩ := gk h
        obtain ⟨r47, hc48, h⟩ := Option.bind_eq_some_iff.mp h
        exact kj17 r47 h
    by_cases c_49 : z3 = 0
    · have h := ip c_49 h
      obtain ⟨hk50, h⟩ := gk h
      obtain ⟨r51, hc52, h⟩ := Option.bind_eq_some_iff.mp h
      exact kj12 r51 h
    · have h := iN c_49 h
      obtain ⟨hk53, h⟩ := gk h
      obtain ⟨hk54, h⟩ := gk h
      obtain ⟨hn55, h⟩ := gk h
      exact kj12 (A (G 14 0 + 9) (((I (G 14 0) 11) - 1).toNatClampNeg)) h
  by_cases c_56 : a1 = 1
  · have h := ip c_56 h
    obtain ⟨hk57, h⟩ := gk h
    by_cases c_58 : 0 < (I (G 14 0) 11)
    · have h := ip c_58 h
      exact kj4 1 h
    · have h := iN c_58 h
      exact kj4 0 h
  · have h := iN c_56 h
    exact kj4 0 h
set_option maxHeartbeats 4000000 in
set_option maxRecDepth 100000 in
theorem fr_X6_endSolving (I : Nat → Nat → Int32) (G : Nat → Nat → Nat) (A : Nat → Nat → Int32) (L : Nat → Nat → Int64) (a1 : Int32) (I0 : Nat → Nat → Int32) (G0 : Nat → Nat → Nat) (A0 : Nat → Nat → Int32) (h : f_X6_endSolving I G A L a1 = some (I0, G0, A0)) : Fc pC I I0 ∧ Fc pC G G0 ∧ Fc pC A A0 := by
  have fI : Fc pC I I := Fc_rf
  have fG : Fc pC G G := Fc_rf
  have fA : Fc pC A A := Fc_rf
  have fL : Fc pC L L := Fc_rf
  rw [f_X6_endSolving] at h
  obtain ⟨r1, hc2, h⟩ := Option.bind_eq_some_iff.mp h
  by_cases c_3 : r1 = 0
  · have h := ip c_3 h
    cases h; exact ⟨fI, fG, fA⟩
  · have h := iN c_3 h
    obtain ⟨hn4, h⟩ := gk h
    obtain ⟨hk5, h⟩ := gk h
    obtain ⟨A6, hc7, h⟩ := Option.bind_eq_some_iff.mp h
    have fA6 : Fc pC A A6 := Fc_tr fA (fr_X3_sumUp I G A L a1 (58 + 52 * ((I 0 5).toNatClampNeg) + 11) A6 hc7)
    obtain ⟨I8, eI8, h⟩ := bd_e h
    have fI8 : Fc pC I I8 := by rw [eI8]; exact Fc_up fI (Nat.not_le.mpr hk5.1)
    obtain ⟨G9, eG9, h⟩ := bd_e h
    have fG9 : Fc pC G G9 := by rw [eG9]; exact Fc_up fG (show ¬ 318 ≤ 0 by decide)
    obtain ⟨G10, eG10, h⟩ := bd_e h
    have fG10 : Fc pC G G10 := by rw [eG10]; exact Fc_up fG9 (show ¬ 318 ≤ 14 by decide)
    obtain ⟨I11, eI11, h⟩ := bd_e h
    have fI11 : Fc pC I I11 := by rw [eI11]; exact Fc_up fI8 (show ¬ 318 ≤ 0 by decide)
    cases h; exact ⟨fI11, fG10, fA6⟩
set_option maxHeartbeats 4000000 in
set_option maxRecDepth 100000 in
theorem fr_X6_fail (I : Nat → Nat → Int32) (A : Nat → Nat → Int32) (a1 : Int32) (a2 : Int32) (r0 : Int32) (A0 : Nat → Nat → Int32) (h : f_X6_fail I A a1 a2 = some (r0, A0)) : Fc pC A A0 := by
  have fI : Fc pC I I := Fc_rf
  have fA : Fc pC A A := Fc_rf
  rw [f_X6_fail] at h
  obtain ⟨r1, hc2, h⟩ := Option.bind_eq_some_iff.mp h
  by_cases c_3 : r1 = 0
  · have h := ip c_3 h
    cases h; exact fA
  · have h := iN c_3 h
    obtain ⟨r4, hc5, h⟩ := Option.bind_eq_some_iff.mp h
    by_cases c_6 : r4 = 0
    · have h := ip c_6 h
      cases h; exact fA
    · have h := iN c_6 h
      by_cases c_7 : (I 0 5) = (-9)
      · have h := ip c_7 h
        obtain ⟨hn8, h⟩ := gk h
        obtain ⟨A9, eA9, h⟩ := bd_e h
        have fA9 : Fc pC A A9 := by rw [eA9]; exact Fc_up fA (show ¬ 318 ≤ 3 by decide)
        cases h; exact fA9
      · have h := iN c_7 h
        cases h; exact fA
set_option maxHeartbeats 4000000 in
set_option maxRecDepth 100000 in
theorem fr_X6_giveUp (I : Nat → Nat → Int32) (r0 : Int32) (I0 : Nat → Nat → Int32) (h : f_X6_giveUp I = some (r0, I0)) : Fc pC I I0 := by
  have fI : Fc pC I I := Fc_rf
  rw [f_X6_giveUp] at h
  by_cases c_1 : (I 0 5) = (-9)
  · have h := ip c_1 h
    cases h; exact fI
  · have h := iN c_1 h
    obtain ⟨I2, eI2, h⟩ := bd_e h
    have fI2 : Fc pC I I2 := by rw [eI2]; exact Fc_up fI (show ¬ 318 ≤ 0 by decide)
    cases h; exact fI2
set_option maxHeartbeats 4000000 in
set_option maxRecDepth 100000 in
theorem fr_X4_become (I : Nat → Nat → Int32) (A : Nat → Nat → Int32) (o : Nat) (a1 : Int32) (I0 : Nat → Nat → Int32) (A0 : Nat → Nat → Int32) (h : f_X4_become I A o a1 = some (I0, A0)) : Fc pC I I0 ∧ Fc pC A A0 := by
  have fI : Fc pC I I := Fc_rf
  have fA : Fc pC A A := Fc_rf
  rw [f_X4_become] at h
  obtain ⟨hk1, h⟩ := gk h
  obtain ⟨I2, eI2, h⟩ := bd_e h
  have fI2 : Fc pC I I2 := by rw [eI2]; exact Fc_up fI (Nat.not_le.mpr hk1.1)
  obtain ⟨A3, hc4, h⟩ := Option.bind_eq_some_iff.mp h
  have fA3 : Fc pC A A3 := Fc_tr fA (fr_J7_fill_53178 A (o + 1) 0 A3 hc4)
  cases h; exact ⟨fI2, fA3⟩
set_option maxHeartbeats 4000000 in
set_option maxRecDepth 100000 in
theorem fr_X6_helpers (I : Nat → Nat → Int32) (A : Nat → Nat → Int32) (a1 : Int32) (r0 : Int32) (I0 : Nat → Nat → Int32) (A0 : Nat → Nat → Int32) (h : f_X6_helpers I A a1 = some (r0, I0, A0)) : Fc pC I I0 ∧ Fc pC A A0 := by
  have fI : Fc pC I I := Fc_rf
  have fA : Fc pC A A := Fc_rf
  rw [f_X6_helpers] at h
  obtain ⟨r1, hc2, h⟩ := Option.bind_eq_some_iff.mp h
  by_cases c_3 : r1 = 0
  · have h := ip c_3 h
    cases h; exact ⟨fI, fA⟩
  · have h := iN c_3 h
    by_cases c_4 : (I 0 5) = (-9)
    · have h := ip c_4 h
      obtain ⟨⟨I5, A6⟩, hc7, h⟩ := Option.bind_eq_some_iff.mp h
      have fI5 : Fc pC I I5 := Fc_tr fI (fr_X4_become I A 2 a1 I5 A6 hc7).1
      have fA6 : Fc pC A A6 := Fc_tr fA (fr_X4_become I A 2 a1 I5 A6 hc7).2
      cases h; exact ⟨fI5, fA6⟩
    · have h := iN c_4 h
      cases h; exact ⟨fI, fA⟩
set_option maxHeartbeats 4000000 in
set_option maxRecDepth 100000 in
theorem fr_X6_limit (I : Nat → Nat → Int32) (a1 : Int32) (r0 : Int32) (I0 : Nat → Nat → Int32) (h : f_X6_limit I a1 = some (r0, I0)) : Fc pC I I0 := by
  have fI : Fc pC I I := Fc_rf
  rw [f_X6_limit] at h
  obtain ⟨r1, hc2, h⟩ := Option.bind_eq_some_iff.mp h
  by_cases c_3 : r1 = 0
  · have h := ip c_3 h
    cases h; exact fI
  · have h := iN c_3 h
    by_cases c_4 : (I 0 5) = (-9)
    · have h := ip c_4 h
      obtain ⟨I5, eI5, h⟩ := bd_e h
      have fI5 : Fc pC I I5 := by rw [eI5]; exact Fc_up fI (show ¬ 318 ≤ 0 by decide)
      cases h; exact fI5
    · have h := iN c_4 h
      cases h; exact fI
set_option maxHeartbeats 4000000 in
set_option maxRecDepth 100000 in
theorem fr_X6_node (I : Nat → Nat → Int32) (A : Nat → Nat → Int32) (a1 : Int32) (a2 : Int32) (a3 : Int32) (r0 : Int32) (I0 : Nat → Nat → Int32) (h : f_X6_node I A a1 a2 a3 = some (r0, I0)) : Fc pC I I0 := by
  have fI : Fc pC I I := Fc_rf
  have fA : Fc pC A A := Fc_rf
  rw [f_X6_node] at h
  obtain ⟨r1, hc2, h⟩ := Option.bind_eq_some_iff.mp h
  by_cases c_3 : r1 = 0
  · have h := ip c_3 h
    cases h; exact fI
  · have h := iN c_3 h
    by_cases c_4 : (I 0 7) = (-9)
    · have h := ip c_4 h
      cases h; exact fI
    · have h := iN c_4 h
      obtain ⟨hn5, h⟩ := gk h
      obtain ⟨hk6, h⟩ := gk h
      by_cases c_7 : (I (58 + 52 * ((I 0 7).toNatClampNeg)) 2) = (I 0 8)
      · have h := ip c_7 h
        by_cases c_8 : a1 = 0
        · have h := ip c_8 h
          obtain ⟨r21, hc22, h⟩ := Option.bind_eq_some_iff.mp h
          by_cases c_23 : r21 = 0
          · have h := ip c_23 h
            cases h; exact fI
          · have h := iN c_23 h
            obtain ⟨hk24, h⟩ := gk h
            obtain ⟨hn25, h⟩ := gk h
            obtain ⟨hk26, h⟩ := gk h
            obtain ⟨r27, hc28, h⟩ := Option.bind_eq_some_iff.mp h
            obtain ⟨r29, hc30, h⟩ := Option.bind_eq_some_iff.mp h
            cases h; exact fI
        · have h := iN c_8 h
          by_cases c_9 : a1 = 1
          · have h := ip c_9 h
            obtain ⟨r14, hc15, h⟩ := Option.bind_eq_some_iff.mp h
            by_cases c_16 : r14 = 0
            · have h := ip c_16 h
              cases h; exact fI
            · have h := iN c_16 h
              obtain ⟨r17, hc18, h⟩ := Option.bind_eq_some_iff.mp h
              obtain ⟨r19, hc20, h⟩ := Option.bind_eq_some_iff.mp h
              cases h; exact fI
          · have h := iN c_9 h
            obtain ⟨I10, hc11, h⟩ := Option.bind_eq_some_iff.mp h
            have fI10 : Fc pC I I10 := Fc_tr fI (fr_X0_look I A 17 (58 + 52 * ((I 0 7).toNatClampNeg)) 18 (I 0 9) 1 I10 hc11)
            by_cases c_12 : a1 = 2
            · have h := ip c_12 h
              cases h; exact fI10
            · have h := iN c_12 h
              by_cases c_13 : a1 = 3
              · have h := ip c_13 h
                cases h; exact fI10
              · have h := iN c_13 h
                cases h; exact fI10
      · have h := iN c_7 h
        cases h; exact fI
set_option maxHeartbeats 4000000 in
set_option maxRecDepth 100000 in
theorem fr_X1_setNumber (I : Nat → Nat → Int32) (o : Nat) (a1 : Int32) (a2 : Int32) (r0 : Int32) (I0 : Nat → Nat → Int32) (h : f_X1_setNumber I o a1 a2 = some (r0, I0)) : Fc pC I I0 := by
  have fI : Fc pC I I := Fc_rf
  rw [f_X1_setNumber] at h
  obtain ⟨hk1, h⟩ := gk h
  obtain ⟨I2, hc3, h⟩ := Option.bind_eq_some_iff.mp h
  have fI2 : Fc pC I I2 := Fc_tr fI (fr_X1_change I o I2 hc3)
  obtain ⟨hk4, h⟩ := gk h
  obtain ⟨hn5, h⟩ := gk h
  obtain ⟨hk6, h⟩ := gk h
  obtain ⟨I7, eI7, h⟩ := bd_e h
  have fI7 : Fc pC I I7 := by rw [eI7]; exact Fc_up fI2 (Nat.not_le.mpr hk6.1)
  cases h; exact fI7
set_option maxHeartbeats 4000000 in
set_option maxRecDepth 100000 in
theorem fr_X6_number (I : Nat → Nat → Int32) (a1 : Int32) (a2 : Int32) (a3 : Int32) (r0 : Int32) (I0 : Nat → Nat → Int32) (h : f_X6_number I a1 a2 a3 = some (r0, I0)) : Fc pC I I0 := by
  have fI : Fc pC I I := Fc_rf
  rw [f_X6_number] at h
  obtain ⟨r1, hc2, h⟩ := Option.bind_eq_some_iff.mp h
  by_cases c_3 : r1 = 0
  · have h := ip c_3 h
    obtain ⟨⟨r4, I5⟩, hc6, h⟩ := Option.bind_eq_some_iff.mp h
    have fI5 : Fc pC I I5 := Fc_tr fI (fr_X6_refuse I (-1) r4 I5 hc6)
    cases h; exact fI5
  · have h := iN c_3 h
    obtain ⟨hn7, h⟩ := gk h
    obtain ⟨hk8, h⟩ := gk h
    obtain ⟨r9, hc10, h⟩ := Option.bind_eq_some_iff.mp h
    by_cases c_11 : r9 = 0
    · have h := ip c_11 h
      obtain ⟨⟨r12, I13⟩, hc14, h⟩ := Option.bind_eq_some_iff.mp h
      have fI13 : Fc pC I I13 := Fc_tr fI (fr_X6_refuse I (-1) r12 I13 hc14)
      cases h; exact fI13
    · have h := iN c_11 h
      obtain ⟨r15, hc16, h⟩ := Option.bind_eq_some_iff.mp h
      by_cases c_17 : r15 = 0
      · have h := ip c_17 h
        obtain ⟨⟨r28, I29⟩, hc30, h⟩ := Option.bind_eq_some_iff.mp h
        have fI29 : Fc pC I I29 := Fc_tr fI (fr_X6_refuse I (-1) r28 I29 hc30)
        cases h; exact fI29
      · have h := iN c_17 h
        by_cases c_18 : (I 0 5) = (-9)
        · have h := ip c_18 h
          obtain ⟨⟨r19, I20⟩, hc21, h⟩ := Option.bind_eq_some_iff.mp h
          have fI20 : Fc pC I I20 := Fc_tr fI (fr_X1_setNumber I (58 + 52 * a1.toNatClampNeg) a2 a3 r19 I20 hc21)
          obtain ⟨⟨r22, I23⟩, hc24, h⟩ := Option.bind_eq_some_iff.mp h
          have fI23 : Fc pC I I23 := Fc_tr fI20 (fr_X6_grant I20 r19 r22 I23 hc24)
          cases h; exact fI23
        · have h := iN c_18 h
          obtain ⟨⟨r25, I26⟩, hc27, h⟩ := Option.bind_eq_some_iff.mp h
          have fI26 : Fc pC I I26 := Fc_tr fI (fr_X6_refuse I (-2) r25 I26 hc27)
          cases h; exact fI26
set_option maxHeartbeats 4000000 in
set_option maxRecDepth 100000 in
theorem fr_X2_add (I : Nat → Nat → Int32) (A : Nat → Nat → Int32) (o : Nat) (a1 : Int32) (a2 : Int32) (I0 : Nat → Nat → Int32) (A0 : Nat → Nat → Int32) (h : f_X2_add I A o a1 a2 = some (I0, A0)) : Fc pC I I0 ∧ Fc pC A A0 := by
  have fI : Fc pC I I := Fc_rf
  have fA : Fc pC A A := Fc_rf
  rw [f_X2_add] at h
  obtain ⟨hk1, h⟩ := gk h
  obtain ⟨hk2, h⟩ := gk h
  obtain ⟨hn3, h⟩ := gk h
  obtain ⟨A4, eA4, h⟩ := bd_e h
  have fA4 : Fc pC A A4 := by rw [eA4]; exact Fc_up fA (Nat.not_le.mpr hk2.1)
  obtain ⟨hk5, h⟩ := gk h
  obtain ⟨hn6, h⟩ := gk h
  obtain ⟨A7, eA7, h⟩ := bd_e h
  have fA7 : Fc pC A A7 := by rw [eA7]; exact Fc_up fA4 (Nat.not_le.mpr hk5.1)
  obtain ⟨hk8, h⟩ := gk h
  obtain ⟨hn9, h⟩ := gk h
  obtain ⟨A10, eA10, h⟩ := bd_e h
  have fA10 : Fc pC A A10 := by rw [eA10]; exact Fc_up fA7 (Nat.not_le.mpr hk8.1)
  obtain ⟨hk11, h⟩ := gk h
  obtain ⟨hn12, h⟩ := gk h
  obtain ⟨A13, eA13, h⟩ := bd_e h
  have fA13 : Fc pC A A13 := by rw [eA13]; exact Fc_up fA10 (Nat.not_le.mpr hk11.1)
  obtain ⟨I14, eI14, h⟩ := bd_e h
  have fI14 : Fc pC I I14 := by rw [eI14]; exact Fc_up fI (Nat.not_le.mpr hk1.1)
  cases h; exact ⟨fI14, fA13⟩
set_option maxHeartbeats 4000000 in
set_option maxRecDepth 100000 in
theorem fr_X1_addPart (I : Nat → Nat → Int32) (A : Nat → Nat → Int32) (o : Nat) (a1 : Int32) (a2 : Int32) (a3 : Int32) (r0 : Int32) (I0 : Nat → Nat → Int32) (A0 : Nat → Nat → Int32) (h : f_X1_addPart I A o a1 a2 a3 = some (r0, I0, A0)) : Fc pC I I0 ∧ Fc pC A A0 := by
  have fI : Fc pC I I := Fc_rf
  have fA : Fc pC A A := Fc_rf
  rw [f_X1_addPart] at h
  obtain ⟨hk1, h⟩ := gk h
  obtain ⟨I2, hc3, h⟩ := Option.bind_eq_some_iff.mp h
  have fI2 : Fc pC I I2 := Fc_tr fI (fr_X1_change I o I2 hc3)
  obtain ⟨hk4, h⟩ := gk h
  obtain ⟨hn5, h⟩ := gk h
  obtain ⟨hk6, h⟩ := gk h
  obtain ⟨⟨I7, A8⟩, hc9, h⟩ := Option.bind_eq_some_iff.mp h
  have fI7 : Fc pC I I7 := Fc_tr fI2 (fr_X2_add I2 A (o + 12 + 5 * a1.toNatClampNeg) a2 a3 I7 A8 hc9).1
  have fA8 : Fc pC A A8 := Fc_tr fA (fr_X2_add I2 A (o + 12 + 5 * a1.toNatClampNeg) a2 a3 I7 A8 hc9).2
  cases h; exact ⟨fI7, fA8⟩
set_option maxHeartbeats 4000000 in
set_option maxRecDepth 100000 in
theorem fr_X6_part (I : Nat → Nat → Int32) (A : Nat → Nat → Int32) (a1 : Int32) (a2 : Int32) (a3 : Int32) (a4 : Int32) (r0 : Int32) (I0 : Nat → Nat → Int32) (A0 : Nat → Nat → Int32) (h : f_X6_part I A a1 a2 a3 a4 = some (r0, I0, A0)) : Fc pC I I0 ∧ Fc pC A A0 := by
  have fI : Fc pC I I := Fc_rf
  have fA : Fc pC A A := Fc_rf
  rw [f_X6_part] at h
  obtain ⟨r1, hc2, h⟩ := Option.bind_eq_some_iff.mp h
  by_cases c_3 : r1 = 0
  · have h := ip c_3 h
    cases h; exact ⟨fI, fA⟩
  · have h := iN c_3 h
    obtain ⟨r4, hc5, h⟩ := Option.bind_eq_some_iff.mp h
    by_cases c_6 : r4 = 0
    · have h := ip c_6 h
      cases h; exact ⟨fI, fA⟩
    · have h := iN c_6 h
      obtain ⟨hn7, h⟩ := gk h
      obtain ⟨hk8, h⟩ := gk h
      obtain ⟨r9, hc10, h⟩ := Option.bind_eq_some_iff.mp h
      by_cases c_11 : r9 = 0
      · have h := ip c_11 h
        cases h; exact ⟨fI, fA⟩
      · have h := iN c_11 h
        obtain ⟨r12, hc13, h⟩ := Option.bind_eq_some_iff.mp h
        by_cases c_14 : r12 = 0
        · have h := ip c_14 h
          cases h; exact ⟨fI, fA⟩
        · have h := iN c_14 h
          by_cases c_15 : (I 0 5) = (-9)
          · have h := ip c_15 h
            obtain ⟨hk16, h⟩ := gk h
            obtain ⟨hn17, h⟩ := gk h
            obtain ⟨hk18, h⟩ := gk h
            obtain ⟨hk19, h⟩ := gk h
            obtain ⟨hn20, h⟩ := gk h
            by_cases c_21 : (A (58 + 52 * a1.toNatClampNeg + 12 + 5 * a2.toNatClampNeg + 3) a3.toNatClampNeg) = 0
            · have h := ip c_21 h
              obtain ⟨⟨r22, I23, A24⟩, hc25, h⟩ := Option.bind_eq_some_iff.mp h
              have fI23 : Fc pC I I23 := Fc_tr fI (fr_X1_addPart I A (58 + 52 * a1.toNatClampNeg) a2 a3 a4 r22 I23 A24 hc25).1
              have fA24 : Fc pC A A24 := Fc_tr fA (fr_X1_addPart I A (58 + 52 * a1.toNatClampNeg) a2 a3 a4 r22 I23 A24 hc25).2
              cases h; exact ⟨fI23, fA24⟩
            · have h := iN c_21 h
              cases h; exact ⟨fI, fA⟩
          · have h := iN c_15 h
            cases h; exact ⟨fI, fA⟩
set_option maxHeartbeats 4000000 in
set_option maxRecDepth 100000 in
theorem fr_X6_plain (I : Nat → Nat → Int32) (r0 : Int32) (I0 : Nat → Nat → Int32) (h : f_X6_plain I = some (r0, I0)) : Fc pC I I0 := by
  have fI : Fc pC I I := Fc_rf
  rw [f_X6_plain] at h
  by_cases c_1 : (I 0 5) = (-9)
  · have h := ip c_1 h
    obtain ⟨I2, eI2, h⟩ := bd_e h
    have fI2 : Fc pC I I2 := by rw [eI2]; exact Fc_up fI (show ¬ 318 ≤ 2 by decide)
    cases h; exact fI2
  · have h := iN c_1 h
    cases h; exact fI
set_option maxHeartbeats 4000000 in
set_option maxRecDepth 100000 in
theorem fr_X6_problem (I : Nat → Nat → Int32) (r0 : Int32) (I0 : Nat → Nat → Int32) (h : f_X6_problem I = some (r0, I0)) : Fc pC I I0 := by
  have fI : Fc pC I I := Fc_rf
  rw [f_X6_problem] at h
  by_cases c_1 : (I 0 5) = (-9)
  · have h := ip c_1 h
    by_cases c_2 : (I 0 1) < 5
    · have h := ip c_2 h
      obtain ⟨I3, eI3, h⟩ := bd_e h
      have fI3 : Fc pC I I3 := by rw [eI3]; exact Fc_up fI (show ¬ 318 ≤ 0 by decide)
      cases h; exact fI3
    · have h := iN c_2 h
      cases h; exact fI
  · have h := iN c_1 h
    cases h; exact fI
set_option maxHeartbeats 4000000 in
set_option maxRecDepth 100000 in
theorem fr_X1_addRule (I : Nat → Nat → Int32) (o : Nat) (a1 : Int32) (a2 : Int32) (r0 : Int32) (I0 : Nat → Nat → Int32) (h : f_X1_addRule I o a1 a2 = some (r0, I0)) : Fc pC I I0 := by
  have fI : Fc pC I I := Fc_rf
  rw [f_X1_addRule] at h
  obtain ⟨hk1, h⟩ := gk h
  obtain ⟨I2, hc3, h⟩ := Option.bind_eq_some_iff.mp h
  have fI2 : Fc pC I I2 := Fc_tr fI (fr_X1_change I o I2 hc3)
  obtain ⟨hk4, h⟩ := gk h
  obtain ⟨hn5, h⟩ := gk h
  obtain ⟨hk6, h⟩ := gk h
  obtain ⟨I7, eI7, h⟩ := bd_e h
  have fI7 : Fc pC I I7 := by rw [eI7]; exact Fc_up fI2 (Nat.not_le.mpr hk6.1)
  obtain ⟨hn8, h⟩ := gk h
  obtain ⟨hk9, h⟩ := gk h
  obtain ⟨I10, eI10, h⟩ := bd_e h
  have fI10 : Fc pC I I10 := by rw [eI10]; exact Fc_up fI7 (Nat.not_le.mpr hk9.1)
  obtain ⟨I11, eI11, h⟩ := bd_e h
  have fI11 : Fc pC I I11 := by rw [eI11]; exact Fc_up fI10 (Nat.not_le.mpr hk1.1)
  cases h; exact fI11
set_option maxHeartbeats 4000000 in
set_option maxRecDepth 100000 in
theorem fr_X6_rule (I : Nat → Nat → Int32) (a1 : Int32) (a2 : Int32) (a3 : Int32) (r0 : Int32) (I0 : Nat → Nat → Int32) (h : f_X6_rule I a1 a2 a3 = some (r0, I0)) : Fc pC I I0 := by
  have fI : Fc pC I I := Fc_rf
  rw [f_X6_rule] at h
  obtain ⟨r1, hc2, h⟩ := Option.bind_eq_some_iff.mp h
  by_cases c_3 : r1 = 0
  · have h := ip c_3 h
    cases h; exact fI
  · have h := iN c_3 h
    obtain ⟨r4, hc5, h⟩ := Option.bind_eq_some_iff.mp h
    by_cases c_6 : r4 = 0
    · have h := ip c_6 h
      cases h; exact fI
    · have h := iN c_6 h
      obtain ⟨r7, hc8, h⟩ := Option.bind_eq_some_iff.mp h
      by_cases c_9 : r7 = 0
      · have h := ip c_9 h
        cases h; exact fI
      · have h := iN c_9 h
        by_cases c_10 : (I 0 5) = (-9)
        · have h := ip c_10 h
          obtain ⟨hn11, h⟩ := gk h
          obtain ⟨hk12, h⟩ := gk h
          by_cases c_13 : (I (58 + 52 * a1.toNatClampNeg) 1) < 8
          · have h := ip c_13 h
            obtain ⟨⟨r14, I15⟩, hc16, h⟩ := Option.bind_eq_some_iff.mp h
            have fI15 : Fc pC I I15 := Fc_tr fI (fr_X1_addRule I (58 + 52 * a1.toNatClampNeg) a2 a3 r14 I15 hc16)
            cases h; exact fI15
          · have h := iN c_13 h
            cases h; exact fI
        · have h := iN c_10 h
          cases h; exact fI
set_option maxHeartbeats 4000000 in
set_option maxRecDepth 100000 in
theorem fr_X5_addJudged (I : Nat → Nat → Int32) (A : Nat → Nat → Int32) (L : Nat → Nat → Int64) (o : Nat) (a1 : Int32) (a2 : Int64) (I0 : Nat → Nat → Int32) (A0 : Nat → Nat → Int32) (L0 : Nat → Nat → Int64) (h : f_X5_addJudged I A L o a1 a2 = some (I0, A0, L0)) : Fc pC I I0 ∧ Fc pC A A0 ∧ Fc pC L L0 := by
  have fI : Fc pC I I := Fc_rf
  have fA : Fc pC A A := Fc_rf
  have fL : Fc pC L L := Fc_rf
  rw [f_X5_addJudged] at h
  obtain ⟨hk1, h⟩ := gk h
  obtain ⟨hk2, h⟩ := gk h
  obtain ⟨hk3, h⟩ := gk h
  obtain ⟨hn4, h⟩ := gk h
  obtain ⟨L5, eL5, h⟩ := bd_e h
  have fL5 : Fc pC L L5 := by rw [eL5]; exact Fc_up fL (Nat.not_le.mpr hk3.1)
  obtain ⟨hk6, h⟩ := gk h
  obtain ⟨hn7, h⟩ := gk h
  obtain ⟨A8, eA8, h⟩ := bd_e h
  have fA8 : Fc pC A A8 := by rw [eA8]; exact Fc_up fA (Nat.not_le.mpr hk6.1)
  obtain ⟨hk9, h⟩ := gk h
  obtain ⟨hn10, h⟩ := gk h
  obtain ⟨A11, eA11, h⟩ := bd_e h
  have fA11 : Fc pC A A11 := by rw [eA11]; exact Fc_up fA8 (Nat.not_le.mpr hk9.1)
  obtain ⟨hk12, h⟩ := gk h
  obtain ⟨hn13, h⟩ := gk h
  obtain ⟨A14, eA14, h⟩ := bd_e h
  have fA14 : Fc pC A A14 := by rw [eA14]; exact Fc_up fA11 (Nat.not_le.mpr hk12.1)
  obtain ⟨hk15, h⟩ := gk h
  obtain ⟨hn16, h⟩ := gk h
  obtain ⟨A17, eA17, h⟩ := bd_e h
  have fA17 : Fc pC A A17 := by rw [eA17]; exact Fc_up fA14 (Nat.not_le.mpr hk15.1)
  obtain ⟨hk18, h⟩ := gk h
  obtain ⟨hn19, h⟩ := gk h
  obtain ⟨A20, eA20, h⟩ := bd_e h
  have fA20 : Fc pC A A20 := by rw [eA20]; exact Fc_up fA17 (Nat.not_le.mpr hk18.1)
  obtain ⟨hk21, h⟩ := gk h
  obtain ⟨hn22, h⟩ := gk h
  obtain ⟨A23, eA23, h⟩ := bd_e h
  have fA23 : Fc pC A A23 := by rw [eA23]; exact Fc_up fA20 (Nat.not_le.mpr hk21.1)
  obtain ⟨hk24, h⟩ := gk h
  obtain ⟨hn25, h⟩ := gk h
  obtain ⟨A26, eA26, h⟩ := bd_e h
  have fA26 : Fc pC A A26 := by rw [eA26]; exact Fc_up fA23 (Nat.not_le.mpr hk24.1)
  obtain ⟨I27, eI27, h⟩ := bd_e h
  have fI27 : Fc pC I I27 := by rw [eI27]; exact Fc_up fI (Nat.not_le.mpr hk1.1)
  cases h; exact ⟨fI27, fA26, fL5⟩
set_option maxHeartbeats 4000000 in
set_option maxRecDepth 100000 in
theorem fr_X5_plant (I : Nat → Nat → Int32) (G : Nat → Nat → Nat) (A : Nat → Nat → Int32) (L : Nat → Nat → Int64) (o : Nat) (s1 : Nat) (a2 : Int32) (I0 : Nat → Nat → Int32) (G0 : Nat → Nat → Nat) (A0 : Nat → Nat → Int32) (L0 : Nat → Nat → Int64) (h : f_X5_plant I G A L o s1 a2 = some (I0, G0, A0, L0)) : Fc pC I I0 ∧ Fc pC G G0 ∧ Fc pC A A0 ∧ Fc pC L L0 := by
  have fI : Fc pC I I := Fc_rf
  have fG : Fc pC G G := Fc_rf
  have fA : Fc pC A A := Fc_rf
  have fL : Fc pC L L := Fc_rf
  rw [f_X5_plant] at h
  obtain ⟨hk1, h⟩ := gk h
  obtain ⟨G2, eG2, h⟩ := bd_e h
  have fG2 : Fc pC G G2 := by rw [eG2]; exact Fc_up fG (Nat.not_le.mpr hk1.1)
  obtain ⟨hz3, h⟩ := gk h
  obtain ⟨I4, eI4, h⟩ := bd_e h
  have fI4 : Fc pC I I4 := by rw [eI4]; exact Fc_up fI (Nat.not_le.mpr hk1.1)
  obtain ⟨I5, eI5, h⟩ := bd_e h
  have fI5 : Fc pC I I5 := by rw [eI5]; exact Fc_up fI4 (Nat.not_le.mpr hk1.1)
  obtain ⟨I6, eI6, h⟩ := bd_e h
  have fI6 : Fc pC I I6 := by rw [eI6]; exact Fc_up fI5 (Nat.not_le.mpr hk1.1)
  obtain ⟨I7, eI7, h⟩ := bd_e h
  have fI7 : Fc pC I I7 := by rw [eI7]; exact Fc_up fI6 (Nat.not_le.mpr hk1.1)
  obtain ⟨A8, hc9, h⟩ := Option.bind_eq_some_iff.mp h
  have fA8 : Fc pC A A8 := Fc_tr fA (fr_J7_fill_53178 A (o + 10) (-1) A8 hc9)
  obtain ⟨hk10, h⟩ := gk h
  obtain ⟨I11, hc12, h⟩ := Option.bind_eq_some_iff.mp h
  have fI11 : Fc pC I I11 := Fc_tr fI7 (fr_X0_look I7 A8 (o + 11) (G2 o 14) (o + 10) 0 (I7 o 15) I11 hc12)
  obtain ⟨⟨I13, A14, L15⟩, hc16, h⟩ := Option.bind_eq_some_iff.mp h
  have fI13 : Fc pC I I13 := Fc_tr fI11 (fr_X5_addJudged I11 A8 L o 0 0 I13 A14 L15 hc16).1
  have fA14 : Fc pC A A14 := Fc_tr fA8 (fr_X5_addJudged I11 A8 L o 0 0 I13 A14 L15 hc16).2.1
  have fL15 : Fc pC L L15 := Fc_tr fL (fr_X5_addJudged I11 A8 L o 0 0 I13 A14 L15 hc16).2.2
  obtain ⟨hk17, h⟩ := gk h
  obtain ⟨hn18, h⟩ := gk h
  obtain ⟨A19, eA19, h⟩ := bd_e h
  have fA19 : Fc pC A A19 := by rw [eA19]; exact Fc_up fA14 (Nat.not_le.mpr hk17.1)
  cases h; exact ⟨fI13, fG2, fA19, fL15⟩
set_option maxHeartbeats 4000000 in
set_option maxRecDepth 100000 in
theorem fr_X3_begin (I : Nat → Nat → Int32) (G : Nat → Nat → Nat) (A : Nat → Nat → Int32) (L : Nat → Nat → Int64) (s1 : Nat) (s2 : Nat) (a3 : Int32) (r0 : Int32) (I0 : Nat → Nat → Int32) (G0 : Nat → Nat → Nat) (A0 : Nat → Nat → Int32) (L0 : Nat → Nat → Int64) (h : f_X3_begin I G A L s1 s2 a3 = some (r0, I0, G0, A0, L0)) : Fc pC I I0 ∧ Fc pC G G0 ∧ Fc pC A A0 ∧ Fc pC L L0 := by
  have fI : Fc pC I I := Fc_rf
  have fG : Fc pC G G := Fc_rf
  have fA : Fc pC A A := Fc_rf
  have fL : Fc pC L L := Fc_rf
  rw [f_X3_begin] at h
  obtain ⟨G1, eG1, h⟩ := bd_e h
  have fG1 : Fc pC G G1 := by rw [eG1]; exact Fc_up fG (show ¬ 318 ≤ 14 by decide)
  obtain ⟨I2, eI2, h⟩ := bd_e h
  have fI2 : Fc pC I I2 := by rw [eI2]; exact Fc_up fI (show ¬ 318 ≤ 14 by decide)
  obtain ⟨I3, eI3, h⟩ := bd_e h
  have fI3 : Fc pC I I3 := by rw [eI3]; exact Fc_up fI2 (show ¬ 318 ≤ 14 by decide)
  obtain ⟨hk4, h⟩ := gk h
  obtain ⟨A5, hc6, h⟩ := Option.bind_eq_some_iff.mp h
  have fA5 : Fc pC A A5 := Fc_tr fA (fr_J7_fill_53178 A (G1 14 1 + 3) 0 A5 hc6)
  obtain ⟨A7, hc8, h⟩ := Option.bind_eq_some_iff.mp h
  have fA7 : Fc pC A A7 := Fc_tr fA5 (fr_J7_fill_53178 A5 15 (-1) A7 hc8)
  obtain ⟨A9, hc10, h⟩ := Option.bind_eq_some_iff.mp h
  have fA9 : Fc pC A A9 := Fc_tr fA7 (fr_J7_fill_53178 A7 16 0 A9 hc10)
  obtain ⟨hk11, h⟩ := gk h
  obtain ⟨⟨I12, G13, A14, L15⟩, hc16, h⟩ := Option.bind_eq_some_iff.mp h
  have fI12 : Fc pC I I12 := Fc_tr fI3 (fr_X5_plant I3 G1 A9 L (G1 14 0) s1 1 I12 G13 A14 L15 hc16).1
  have fG13 : Fc pC G G13 := Fc_tr fG1 (fr_X5_plant I3 G1 A9 L (G1 14 0) s1 1 I12 G13 A14 L15 hc16).2.1
  have fA14 : Fc pC A A14 := Fc_tr fA9 (fr_X5_plant I3 G1 A9 L (G1 14 0) s1 1 I12 G13 A14 L15 hc16).2.2.1
  have fL15 : Fc pC L L15 := Fc_tr fL (fr_X5_plant I3 G1 A9 L (G1 14 0) s1 1 I12 G13 A14 L15 hc16).2.2.2
  obtain ⟨hk17, h⟩ := gk h
  obtain ⟨hk18, h⟩ := gk h
  obtain ⟨hn19, h⟩ := gk h
  by_cases c_20 : (A14 (G13 14 0 + 3) 0) = 0
  · have h := ip c_20 h
    cases h; exact ⟨fI12, fG13, fA14, fL15⟩
  · have h := iN c_20 h
    cases h; exact ⟨fI12, fG13, fA14, fL15⟩
set_option maxHeartbeats 4000000 in
set_option maxRecDepth 100000 in
theorem fr_X3_pick (I : Nat → Nat → Int32) (G : Nat → Nat → Nat) (A : Nat → Nat → Int32) (L : Nat → Nat → Int64) (a1 : Int32) (A0 : Nat → Nat → Int32) (h : f_X3_pick I G A L a1 = some A0) : Fc pC A A0 := by
  have fI : Fc pC I I := Fc_rf
  have fG : Fc pC G G := Fc_rf
  have fA : Fc pC A A := Fc_rf
  have fL : Fc pC L L := Fc_rf
  rw [f_X3_pick] at h
  obtain ⟨hk1, h⟩ := gk h
  obtain ⟨j3, ej3, h⟩ := bd_e h
  have kj3 : ∀ (z2 : Int32), j3 z2 = some A0 → Fc pC A A0 := by
    intro z2 h
    subst ej3
    obtain ⟨j7, ej7, h⟩ := bd_e h
    have kj7 : ∀ (z6 : Int32), j7 z6 = some A0 → Fc pC A A0 := by
      intro z6 h
      subst ej7
      by_cases c_8 : z6 = (-1)
      · have h := ip c_8 h
        obtain ⟨hk15, h⟩ := gk h
        obtain ⟨hk16, h⟩ := gk h
        obtain ⟨hn17, h⟩ := gk h
        obtain ⟨A18, eA18, h⟩ := bd_e h
        have fA18 : Fc pC A A18 := by rw [eA18]; exact Fc_up fA (Nat.not_le.mpr hk16.1)
        cases h; exact fA18
      · have h := iN c_8 h
        obtain ⟨hk9, h⟩ := gk h
        obtain ⟨hn10, h⟩ := gk h
        obtain ⟨A11, eA11, h⟩ := bd_e h
        have fA11 : Fc pC A A11 := by rw [eA11]; exact Fc_up fA (Nat.not_le.mpr hk9.1)
        obtain ⟨hn12, h⟩ := gk h
        obtain ⟨A13, eA13, h⟩ := bd_e h
        have fA13 : Fc pC A A13 := by rw [eA13]; exact Fc_up fA11 (show ¬ 318 ≤ 15 by decide)
        obtain ⟨A14, eA14, h⟩ := bd_e h
        have fA14 : Fc pC A A14 := by rw [eA14]; exact Fc_up fA13 (show ¬ 318 ≤ 16 by decide)
        cases h; exact fA14
    by_cases c_19 : z2 = 0
    · have h := ip c_19 h
      obtain ⟨r20, hc21, h⟩ := Option.bind_eq_some_iff.mp h
      exact kj7 r20 h
    · have h := iN c_19 h
      exact kj7 (-1) h
  by_cases c_22 : ((I (G 14 0) 10) - (I (G 14 0) 11)) < 30
  · have h := ip c_22 h
    exact kj3 0 h
  · have h := iN c_22 h
    exact kj3 1 h
set_option maxHeartbeats 4000000 in
set_option maxRecDepth 100000 in
theorem fr_X3_replace (G : Nat → Nat → Nat) (A : Nat → Nat → Int32) (a1 : Int32) (A0 : Nat → Nat → Int32) (h : f_X3_replace G A a1 = some A0) : Fc pC A A0 := by
  have fG : Fc pC G G := Fc_rf
  have fA : Fc pC A A := Fc_rf
  rw [f_X3_replace] at h
  obtain ⟨hk1, h⟩ := gk h
  obtain ⟨hn2, h⟩ := gk h
  obtain ⟨hk3, h⟩ := gk h
  obtain ⟨hn4, h⟩ := gk h
  obtain ⟨A5, eA5, h⟩ := bd_e h
  have fA5 : Fc pC A A5 := by rw [eA5]; exact Fc_up fA (Nat.not_le.mpr hk3.1)
  obtain ⟨A6, eA6, h⟩ := bd_e h
  have fA6 : Fc pC A A6 := by rw [eA6]; exact Fc_up fA5 (show ¬ 318 ≤ 15 by decide)
  obtain ⟨hk7, h⟩ := gk h
  obtain ⟨hk8, h⟩ := gk h
  obtain ⟨hn9, h⟩ := gk h
  obtain ⟨A10, eA10, h⟩ := bd_e h
  have fA10 : Fc pC A A10 := by rw [eA10]; exact Fc_up fA6 (Nat.not_le.mpr hk8.1)
  cases h; exact fA10
set_option maxHeartbeats 4000000 in
set_option maxRecDepth 100000 in
theorem fr_X3_walkOn (I : Nat → Nat → Int32) (G : Nat → Nat → Nat) (A : Nat → Nat → Int32) (L : Nat → Nat → Int64) (r0 : Int32) (I0 : Nat → Nat → Int32) (A0 : Nat → Nat → Int32) (h : f_X3_walkOn I G A L = some (r0, I0, A0)) : Fc pC I I0 ∧ Fc pC A A0 := by
  have fI : Fc pC I I := Fc_rf
  have fG : Fc pC G G := Fc_rf
  have fA : Fc pC A A := Fc_rf
  have fL : Fc pC L L := Fc_rf
  rw [f_X3_walkOn] at h
  obtain ⟨k5, ek5, h⟩ := bd_e h
  have kk5 : ∀ (I6 : Nat → Nat → Int32) (A7 : Nat → Nat → Int32), k5 I6 A7 = some (r0, I0, A0) → Fc pC I I6 → Fc pC A A7 → Fc pC I I0 ∧ Fc pC A A0 := by
    intro I6 A7 h fI6 fA7
    subst ek5
    cases h; exact ⟨fI6, fA7⟩
  obtain ⟨k8, ek8, h⟩ := bd_e h
  have kk8 : ∀ (I9 : Nat → Nat → Int32) (A10 : Nat → Nat → Int32), k8 I9 A10 = some (r0, I0, A0) → Fc pC I I9 → Fc pC A A10 → Fc pC I I0 ∧ Fc pC A A0 := by
    intro I9 A10 h fI9 fA10
    subst ek8
    cases h; exact ⟨fI9, fA10⟩
  obtain ⟨k11, ek11, h⟩ := bd_e h
  have kk11 : ∀ (I12 : Nat → Nat → Int32) (A13 : Nat → Nat → Int32), k11 I12 A13 = some (r0, I0, A0) → Fc pC I I12 → Fc pC A A13 → Fc pC I I0 ∧ Fc pC A A0 := by
    intro I12 A13 h fI12 fA13
    subst ek11
    cases h; exact ⟨fI12, fA13⟩
  obtain ⟨k14, ek14, h⟩ := bd_e h
  have kk14 : ∀ (I15 : Nat → Nat → Int32) (A16 : Nat → Nat → Int32), k14 I15 A16 = some (r0, I0, A0) → Fc pC I I15 → Fc pC A A16 → Fc pC I I0 ∧ Fc pC A A0 := by
    intro I15 A16 h fI15 fA16
    subst ek14
    cases h; exact ⟨fI15, fA16⟩
  obtain ⟨k17, ek17, h⟩ := bd_e h
  have kk17 : ∀ (I18 : Nat → Nat → Int32) (A19 : Nat → Nat → Int32), k17 I18 A19 = some (r0, I0, A0) → Fc pC I I18 → Fc pC A A19 → Fc pC I I0 ∧ Fc pC A A0 := by
    intro I18 A19 h fI18 fA19
    subst ek17
    cases h; exact ⟨fI18, fA19⟩
  obtain ⟨k20, ek20, h⟩ := bd_e h
  have kk20 : ∀ (I21 : Nat → Nat → Int32) (A22 : Nat → Nat → Int32), k20 I21 A22 = some (r0, I0, A0) → Fc pC I I21 → Fc pC A A22 → Fc pC I I0 ∧ Fc pC A A0 := by
    intro I21 A22 h fI21 fA22
    subst ek20
    cases h; exact ⟨fI21, fA22⟩
  have lp1 : ∀ (n : Nat) (v2 : Int32) (I3 : Nat → Nat → Int32) (A4 : Nat → Nat → Int32), f_X3_walkOn_L2 G L k5 k8 k11 k14 k17 k20 n v2 I3 A4 = some (r0, I0, A0) → Fc pC I I3 → Fc pC A A4 → Fc pC I I0 ∧ Fc pC A A0 := by
    intro n
    induction n with
    | zero => intro v2 I3 A4 h; exact absurd h (by rw [f_X3_walkOn_L2]; exact nofun)
    | succ n ih1 =>
      intro v2 I3 A4 h fI3 fA4
      rw [f_X3_walkOn_L2] at h
      by_cases c_23 : v2 < 250
      · have h := ip c_23 h
        obtain ⟨hk24, h⟩ := gk h
        obtain ⟨r25, hc26, h⟩ := Option.bind_eq_some_iff.mp h
        by_cases c_27 : r25 = (-1)
        · have h := ip c_27 h
          exact kk5 I3 A4 h fI3 fA4
        · have h := iN c_27 h
          obtain ⟨hk28, h⟩ := gk h
          obtain ⟨hn29, h⟩ := gk h
          by_cases c_30 : (A4 (G 14 0 + 5) r25.toNatClampNeg) = 2
          · have h := ip c_30 h
            obtain ⟨⟨I31, A32⟩, hc33, h⟩ := Option.bind_eq_some_iff.mp h
            have fI31 : Fc pC I I31 := Fc_tr fI3 (fr_X5_take I3 G A4 (G 14 0) r25 I31 A32 hc33).1
            have fA32 : Fc pC A A32 := Fc_tr fA4 (fr_X5_take I3 G A4 (G 14 0) r25 I31 A32 hc33).2
            obtain ⟨r34, hc35, h⟩ := Option.bind_eq_some_iff.mp h
            by_cases c_36 : r34 = 0
            · have h := ip c_36 h
              by_cases c_37 : (I31 (G 14 0) 11) < 250
              · have h := ip c_37 h
                by_cases c_38 : (I31 (G 14 0) 11) = (I31 14 2)
                · have h := ip c_38 h
                  exact kk17 I31 A32 h fI31 fA32
                · have h := iN c_38 h
                  exact ih1 (v2 + 1) I31 A32 h fI31 fA32
              · have h := iN c_37 h
                exact kk14 I31 A32 h fI31 fA32
            · have h := iN c_36 h
              exact kk11 I31 A32 h fI31 fA32
          · have h := iN c_30 h
            exact kk8 I3 A4 h fI3 fA4
      · have h := iN c_23 h
        exact kk20 I3 A4 h fI3 fA4
  exact lp1 FU 0 I A h fI fA
set_option maxHeartbeats 4000000 in
set_option maxRecDepth 100000 in
theorem fr_X5_finish (I : Nat → Nat → Int32) (G : Nat → Nat → Nat) (A : Nat → Nat → Int32) (L : Nat → Nat → Int64) (o : Nat) (a1 : Int32) (a2 : Int32) (I0 : Nat → Nat → Int32) (A0 : Nat → Nat → Int32) (L0 : Nat → Nat → Int64) (h : f_X5_finish I G A L o a1 a2 = some (I0, A0, L0)) : Fc pC I I0 ∧ Fc pC A A0 ∧ Fc pC L L0 := by
  have fI : Fc pC I I := Fc_rf
  have fG : Fc pC G G := Fc_rf
  have fA : Fc pC A A := Fc_rf
  have fL : Fc pC L L := Fc_rf
  rw [f_X5_finish] at h
  obtain ⟨hk1, h⟩ := gk h
  obtain ⟨hk2, h⟩ := gk h
  obtain ⟨hn3, h⟩ := gk h
  obtain ⟨A4, eA4, h⟩ := bd_e h
  have fA4 : Fc pC A A4 := by rw [eA4]; exact Fc_up fA (Nat.not_le.mpr hk2.1)
  obtain ⟨hk5, h⟩ := gk h
  obtain ⟨hn6, h⟩ := gk h
  obtain ⟨A7, eA7, h⟩ := bd_e h
  have fA7 : Fc pC A A7 := by rw [eA7]; exact Fc_up fA4 (Nat.not_le.mpr hk5.1)
  obtain ⟨I8, eI8, h⟩ := bd_e h
  have fI8 : Fc pC I I8 := by rw [eI8]; exact Fc_up fI (Nat.not_le.mpr hk1.1)
  obtain ⟨r9, hc10, h⟩ := Option.bind_eq_some_iff.mp h
  by_cases c_11 : r9 = 0
  · have h := ip c_11 h
    obtain ⟨hk12, h⟩ := gk h
    obtain ⟨hn13, h⟩ := gk h
    obtain ⟨hk14, h⟩ := gk h
    obtain ⟨hn15, h⟩ := gk h
    obtain ⟨A16, hc17, h⟩ := Option.bind_eq_some_iff.mp h
    have fA16 : Fc pC A A16 := Fc_tr fA7 (fr_J7_fill_53178 A7 (o + 10) (-1) A16 hc17)
    obtain ⟨A18, hc19, h⟩ := Option.bind_eq_some_iff.mp h
    have fA18 : Fc pC A A18 := Fc_tr fA16 (fr_X5_copyValues A16 L o a1 (o + 10) 0 A18 hc19)
    obtain ⟨hk20, h⟩ := gk h
    obtain ⟨hn21, h⟩ := gk h
    obtain ⟨A22, eA22, h⟩ := bd_e h
    have fA22 : Fc pC A A22 := by rw [eA22]; exact Fc_up fA18 (Nat.not_le.mpr hk20.1)
    obtain ⟨k30, ek30, h⟩ := bd_e h
    have kk30 : ∀ (I31 : Nat → Nat → Int32) (A32 : Nat → Nat → Int32) (L33 : Nat → Nat → Int64), k30 I31 A32 L33 = some (I0, A0, L0) → Fc pC I I31 → Fc pC A A32 → Fc pC L L33 → Fc pC I I0 ∧ Fc pC A A0 ∧ Fc pC L L0 := by
      intro I31 A32 L33 h fI31 fA32 fL33
      subst ek30
      cases h; exact ⟨fI31, fA32, fL33⟩
    have lp23 : ∀ (n : Nat) (v24 : Int32) (v25 : Int64) (v26 : Int32) (I27 : Nat → Nat → Int32) (A28 : Nat → Nat → Int32) (L29 : Nat → Nat → Int64), f_X5_finish_L85 o G k30 n v24 v25 v26 I27 A28 L29 = some (I0, A0, L0) → Fc pC I I27 → Fc pC A A28 → Fc pC L L29 → Fc pC I I0 ∧ Fc pC A A0 ∧ Fc pC L L0 := by
      intro n
      induction n with
      | zero => intro v24 v25 v26 I27 A28 L29 h; exact absurd h (by rw [f_X5_finish_L85]; exact nofun)
      | succ n ih23 =>
        intro v24 v25 v26 I27 A28 L29 h fI27 fA28 fL29
        rw [f_X5_finish_L85] at h
        obtain ⟨hk34, h⟩ := gk h
        obtain ⟨hk35, h⟩ := gk h
        obtain ⟨hn36, h⟩ := gk h
        by_cases c_37 : v24 < (A28 (G o 14 + 1) v26.toNatClampNeg)
        · have h := ip c_37 h
          by_cases c_38 : (I27 o 9) < (nI (ln (o + 1)))
          · have h := ip c_38 h
            obtain ⟨hk39, h⟩ := gk h
            obtain ⟨hn40, h⟩ := gk h
            obtain ⟨A41, eA41, h⟩ := bd_e h
            have fA41 : Fc pC A A41 := by rw [eA41]; exact Fc_up fA28 (Nat.not_le.mpr hk39.1)
            obtain ⟨hk42, h⟩ := gk h
            obtain ⟨I43, hc44, h⟩ := Option.bind_eq_some_iff.mp h
            have fI43 : Fc pC I I43 := Fc_tr fI27 (fr_X0_look I27 A41 (o + 11) (G o 14) (o + 10) (v26 + 1) (I27 o 15) I43 hc44)
            obtain ⟨r45, hc46, h⟩ := Option.bind_eq_some_iff.mp h
            obtain ⟨⟨I47, A48, L49⟩, hc50, h⟩ := Option.bind_eq_some_iff.mp h
            have fI47 : Fc pC I I47 := Fc_tr fI43 (fr_X5_addJudged I43 A41 L29 o (v26 + 1) (v25 ||| (((v24 + 1).toInt64) <<< (r45.toInt64 &&& 63))) I47 A48 L49 hc50).1
            have fA48 : Fc pC A A48 := Fc_tr fA41 (fr_X5_addJudged I43 A41 L29 o (v26 + 1) (v25 ||| (((v24 + 1).toInt64) <<< (r45.toInt64 &&& 63))) I47 A48 L49 hc50).2.1
            have fL49 : Fc pC L L49 := Fc_tr fL29 (fr_X5_addJudged I43 A41 L29 o (v26 + 1) (v25 ||| (((v24 + 1).toInt64) <<< (r45.toInt64 &&& 63))) I47 A48 L49 hc50).2.2
            exact ih23 (v24 + 1) v25 v26 I47 A48 L49 h fI47 fA48 fL49
          · have h := iN c_38 h
            exact kk30 I27 A28 L29 h fI27 fA28 fL29
        · have h := iN c_37 h
          exact kk30 I27 A28 L29 h fI27 fA28 fL29
    exact lp23 FU 0 ((L (o + 1) a1.toNatClampNeg) &&& 262143) (A7 (o + 2) a1.toNatClampNeg) I8 A22 L h fI8 fA22 fL
  · have h := iN c_11 h
    cases h; exact ⟨fI8, fA7, fL⟩
set_option maxHeartbeats 4000000 in
set_option maxRecDepth 100000 in
theorem fr_X3_takeTurn (I : Nat → Nat → Int32) (G : Nat → Nat → Nat) (A : Nat → Nat → Int32) (L : Nat → Nat → Int64) (r0 : Int32) (I0 : Nat → Nat → Int32) (A0 : Nat → Nat → Int32) (L0 : Nat → Nat → Int64) (h : f_X3_takeTurn I G A L = some (r0, I0, A0, L0)) : Fc pC I I0 ∧ Fc pC A A0 ∧ Fc pC L L0 := by
  have fI : Fc pC I I := Fc_rf
  have fG : Fc pC G G := Fc_rf
  have fA : Fc pC A A := Fc_rf
  have fL : Fc pC L L := Fc_rf
  rw [f_X3_takeTurn] at h
  obtain ⟨hk1, h⟩ := gk h
  obtain ⟨r2, hc3, h⟩ := Option.bind_eq_some_iff.mp h
  obtain ⟨I4, eI4, h⟩ := bd_e h
  have fI4 : Fc pC I I4 := by rw [eI4]; exact Fc_up fI (show ¬ 318 ≤ 14 by decide)
  obtain ⟨hn5, h⟩ := gk h
  by_cases c_6 : (A 15 r2.toNatClampNeg) = (-1)
  · have h := ip c_6 h
    obtain ⟨A29, hc30, h⟩ := Option.bind_eq_some_iff.mp h
    have fA29 : Fc pC A A29 := Fc_tr fA (fr_X3_pick I4 G A L r2 A29 hc30)
    obtain ⟨⟨r31, I32, A33⟩, hc34, h⟩ := Option.bind_eq_some_iff.mp h
    have fI32 : Fc pC I I32 := Fc_tr fI4 (fr_X3_walkOn I4 G A29 L r31 I32 A33 hc34).1
    have fA33 : Fc pC A A33 := Fc_tr fA29 (fr_X3_walkOn I4 G A29 L r31 I32 A33 hc34).2
    cases h; exact ⟨fI32, fA33, fL⟩
  · have h := iN c_6 h
    obtain ⟨hk7, h⟩ := gk h
    obtain ⟨hn8, h⟩ := gk h
    by_cases c_9 : (A 16 r2.toNatClampNeg) = (A (G 14 1 + 1) r2.toNatClampNeg)
    · have h := ip c_9 h
      obtain ⟨A23, hc24, h⟩ := Option.bind_eq_some_iff.mp h
      have fA23 : Fc pC A A23 := Fc_tr fA (fr_X3_replace G A r2 A23 hc24)
      obtain ⟨⟨r25, I26, A27⟩, hc28, h⟩ := Option.bind_eq_some_iff.mp h
      have fI26 : Fc pC I I26 := Fc_tr fI4 (fr_X3_walkOn I4 G A23 L r25 I26 A27 hc28).1
      have fA27 : Fc pC A A27 := Fc_tr fA23 (fr_X3_walkOn I4 G A23 L r25 I26 A27 hc28).2
      cases h; exact ⟨fI26, fA27, fL⟩
    · have h := iN c_9 h
      obtain ⟨hk10, h⟩ := gk h
      obtain ⟨⟨I11, A12, L13⟩, hc14, h⟩ := Option.bind_eq_some_iff.mp h
      have fI11 : Fc pC I I11 := Fc_tr fI4 (fr_X5_finish I4 G A L (G 14 0) (A 15 r2.toNatClampNeg) r2 I11 A12 L13 hc14).1
      have fA12 : Fc pC A A12 := Fc_tr fA (fr_X5_finish I4 G A L (G 14 0) (A 15 r2.toNatClampNeg) r2 I11 A12 L13 hc14).2.1
      have fL13 : Fc pC L L13 := Fc_tr fL (fr_X5_finish I4 G A L (G 14 0) (A 15 r2.toNatClampNeg) r2 I11 A12 L13 hc14).2.2
      obtain ⟨hk15, h⟩ := gk h
      obtain ⟨hn16, h⟩ := gk h
      obtain ⟨A17, eA17, h⟩ := bd_e h
      have fA17 : Fc pC A A17 := by rw [eA17]; exact Fc_up fA12 (Nat.not_le.mpr hk15.1)
      obtain ⟨A18, eA18, h⟩ := bd_e h
      have fA18 : Fc pC A A18 := by rw [eA18]; exact Fc_up fA17 (show ¬ 318 ≤ 15 by decide)
      obtain ⟨⟨r19, I20, A21⟩, hc22, h⟩ := Option.bind_eq_some_iff.mp h
      have fI20 : Fc pC I I20 := Fc_tr fI11 (fr_X3_walkOn I11 G A18 L13 r19 I20 A21 hc22).1
      have fA21 : Fc pC A A21 := Fc_tr fA18 (fr_X3_walkOn I11 G A18 L13 r19 I20 A21 hc22).2
      cases h; exact ⟨fI20, fA21, fL13⟩
set_option maxHeartbeats 4000000 in
set_option maxRecDepth 100000 in
theorem fr_X6_same (I : Nat → Nat → Int32) (G : Nat → Nat → Nat) (A : Nat → Nat → Int32) (L : Nat → Nat → Int64) (a1 : Int32) (a2 : Int32) (r0 : Int32) (I0 : Nat → Nat → Int32) (G0 : Nat → Nat → Nat) (A0 : Nat → Nat → Int32) (L0 : Nat → Nat → Int64) (h : f_X6_same I G A L a1 a2 = some (r0, I0, G0, A0, L0)) : Fc pC I I0 ∧ Fc pC G G0 ∧ Fc pC A A0 ∧ Fc pC L L0 := by
  have fI : Fc pC I I := Fc_rf
  have fG : Fc pC G G := Fc_rf
  have fA : Fc pC A A := Fc_rf
  have fL : Fc pC L L := Fc_rf
  rw [f_X6_same] at h
  obtain ⟨r1, hc2, h⟩ := Option.bind_eq_some_iff.mp h
  by_cases c_3 : r1 = 0
  · have h := ip c_3 h
    cases h; exact ⟨fI, fG, fA, fL⟩
  · have h := iN c_3 h
    obtain ⟨r4, hc5, h⟩ := Option.bind_eq_some_iff.mp h
    by_cases c_6 : r4 = 0
    · have h := ip c_6 h
      cases h; exact ⟨fI, fG, fA, fL⟩
    · have h := iN c_6 h
      by_cases c_7 : (I 0 5) = (-9)
      · have h := ip c_7 h
        obtain ⟨k14, ek14, h⟩ := bd_e h
        have kk14 : ∀ (I15 : Nat → Nat → Int32) (G16 : Nat → Nat → Nat) (A17 : Nat → Nat → Int32) (L18 : Nat → Nat → Int64), k14 I15 G16 A17 L18 = some (r0, I0, G0, A0, L0) → Fc pC I I15 → Fc pC G G16 → Fc pC A A17 → Fc pC L L18 → Fc pC I I0 ∧ Fc pC G G0 ∧ Fc pC A A0 ∧ Fc pC L L0 := by
          intro I15 G16 A17 L18 h fI15 fG16 fA17 fL18
          subst ek14
          obtain ⟨r19, hc20, h⟩ := Option.bind_eq_some_iff.mp h
          obtain ⟨r21, hc22, h⟩ := Option.bind_eq_some_iff.mp h
          cases h; exact ⟨fI15, fG16, fA17, fL18⟩
        have lp8 : ∀ (n : Nat) (v9 : Int32) (I10 : Nat → Nat → Int32) (G11 : Nat → Nat → Nat) (A12 : Nat → Nat → Int32) (L13 : Nat → Nat → Int64), f_X6_same_L33 a1 a2 k14 n v9 I10 G11 A12 L13 = some (r0, I0, G0, A0, L0) → Fc pC I I10 → Fc pC G G11 → Fc pC A A12 → Fc pC L L13 → Fc pC I I0 ∧ Fc pC G G0 ∧ Fc pC A A0 ∧ Fc pC L L0 := by
          intro n
          induction n with
          | zero => intro v9 I10 G11 A12 L13 h; exact absurd h (by rw [f_X6_same_L33]; exact nofun)
          | succ n ih8 =>
            intro v9 I10 G11 A12 L13 h fI10 fG11 fA12 fL13
            rw [f_X6_same_L33] at h
            by_cases c_23 : v9 < 2
            · have h := ip c_23 h
              obtain ⟨j25, ej25, h⟩ := bd_e h
              have kj25 : ∀ (z24 : Int32), j25 z24 = some (r0, I0, G0, A0, L0) → Fc pC I I0 ∧ Fc pC G G0 ∧ Fc pC A A0 ∧ Fc pC L L0 := by
                intro z24 h
                subst ej25
                obtain ⟨⟨I26, A27⟩, hc28, h⟩ := Option.bind_eq_some_iff.mp h
                have fI26 : Fc pC I I26 := Fc_tr fI10 (fr_X4_become I10 A12 8 z24 I26 A27 hc28).1
                have fA27 : Fc pC A A27 := Fc_tr fA12 (fr_X4_become I10 A12 8 z24 I26 A27 hc28).2
                obtain ⟨hn29, h⟩ := gk h
                obtain ⟨⟨r30, I31, G32, A33, L34⟩, hc35, h⟩ := Option.bind_eq_some_iff.mp h
                have fI31 : Fc pC I I31 := Fc_tr fI26 (fr_X3_begin I26 G11 A27 L13 (58 + 52 * a1.toNatClampNeg) 8 (I26 0 3) r30 I31 G32 A33 L34 hc35).1
                have fG32 : Fc pC G G32 := Fc_tr fG11 (fr_X3_begin I26 G11 A27 L13 (58 + 52 * a1.toNatClampNeg) 8 (I26 0 3) r30 I31 G32 A33 L34 hc35).2.1
                have fA33 : Fc pC A A33 := Fc_tr fA27 (fr_X3_begin I26 G11 A27 L13 (58 + 52 * a1.toNatClampNeg) 8 (I26 0 3) r30 I31 G32 A33 L34 hc35).2.2.1
                have fL34 : Fc pC L L34 := Fc_tr fL13 (fr_X3_begin I26 G11 A27 L13 (58 + 52 * a1.toNatClampNeg) 8 (I26 0 3) r30 I31 G32 A33 L34 hc35).2.2.2
                obtain ⟨k42, ek42, h⟩ := bd_e h
                have kk42 : ∀ (v43 : Int32) (I44 : Nat → Nat → Int32) (A45 : Nat → Nat → Int32) (L46 : Nat → Nat → Int64), k42 v43 I44 A45 L46 = some (r0, I0, G0, A0, L0) → Fc pC I I44 → Fc pC A A45 → Fc pC L L46 → Fc pC I I0 ∧ Fc pC G G0 ∧ Fc pC A A0 ∧ Fc pC L L0 := by
                  intro v43 I44 A45 L46 h fI44 fA45 fL46
                  subst ek42
                  by_cases c_47 : v9 = 0
                  · have h := ip c_47 h
                    obtain ⟨A50, hc51, h⟩ := Option.bind_eq_some_iff.mp h
                    have fA50 : Fc pC A A50 := Fc_tr fA45 (fr_X3_sumUp I44 G32 A45 L46 v43 20 A50 hc51)
                    exact ih8 (v9 + 1) I44 G32 A50 L46 h fI44 fG32 fA50 fL46
                  · have h := iN c_47 h
                    obtain ⟨A48, hc49, h⟩ := Option.bind_eq_some_iff.mp h
                    have fA48 : Fc pC A A48 := Fc_tr fA45 (fr_X3_sumUp I44 G32 A45 L46 v43 21 A48 hc49)
                    exact ih8 (v9 + 1) I44 G32 A48 L46 h fI44 fG32 fA48 fL46
                have lp36 : ∀ (n : Nat) (v37 : Int32) (v38 : Int32) (I39 : Nat → Nat → Int32) (A40 : Nat → Nat → Int32) (L41 : Nat → Nat → Int64), f_X6_same_L80 v9 a1 a2 G32 k42 n v37 v38 I39 A40 L41 = some (r0, I0, G0, A0, L0) → Fc pC I I39 → Fc pC A A40 → Fc pC L L41 → Fc pC I I0 ∧ Fc pC G G0 ∧ Fc pC A A0 ∧ Fc pC L L0 := by
                  intro n
                  induction n with
                  | zero => intro v37 v38 I39 A40 L41 h; exact absurd h (by rw [f_X6_same_L80]; exact nofun)
                  | succ n ih36 =>
                    intro v37 v38 I39 A40 L41 h fI39 fA40 fL41
                    rw [f_X6_same_L80] at h
                    by_cases c_52 : v37 < 1000000
                    · have h := ip c_52 h
                      by_cases c_53 : v38 = 0
                      · have h := ip c_53 h
                        obtain ⟨⟨r54, I55, A56, L57⟩, hc58, h⟩ := Option.bind_eq_some_iff.mp h
                        have fI55 : Fc pC I I55 := Fc_tr fI39 (fr_X3_takeTurn I39 G32 A40 L41 r54 I55 A56 L57 hc58).1
                        have fA56 : Fc pC A A56 := Fc_tr fA40 (fr_X3_takeTurn I39 G32 A40 L41 r54 I55 A56 L57 hc58).2.1
                        have fL57 : Fc pC L L57 := Fc_tr fL41 (fr_X3_takeTurn I39 G32 A40 L41 r54 I55 A56 L57 hc58).2.2
                        exact ih36 (v37 + 1) r54 I55 A56 L57 h fI55 fA56 fL57
                      · have h := iN c_53 h
                        exact kk42 v38 I39 A40 L41 h fI39 fA40 fL41
                    · have h := iN c_52 h
                      exact kk42 v38 I39 A40 L41 h fI39 fA40 fL41
                exact lp36 FU 0 r30 I31 A33 L34 h fI31 fA33 fL34
              by_cases c_59 : v9 = 0
              · have h := ip c_59 h
                exact kj25 1 h
              · have h := iN c_59 h
                exact kj25 a2 h
            · have h := iN c_23 h
              exact kk14 I10 G11 A12 L13 h fI10 fG11 fA12 fL13
        exact lp8 FU 0 I G A L h fI fG fA fL
      · have h := iN c_7 h
        cases h; exact ⟨fI, fG, fA, fL⟩
set_option maxHeartbeats 4000000 in
set_option maxRecDepth 100000 in
theorem fr_X6_second (I : Nat → Nat → Int32) (G : Nat → Nat → Nat) (A : Nat → Nat → Int32) (L : Nat → Nat → Int64) (a1 : Int32) (a2 : Int32) (r0 : Int32) (I0 : Nat → Nat → Int32) (G0 : Nat → Nat → Nat) (A0 : Nat → Nat → Int32) (L0 : Nat → Nat → Int64) (h : f_X6_second I G A L a1 a2 = some (r0, I0, G0, A0, L0)) : Fc pC I I0 ∧ Fc pC G G0 ∧ Fc pC A A0 ∧ Fc pC L L0 := by
  have fI : Fc pC I I := Fc_rf
  have fG : Fc pC G G := Fc_rf
  have fA : Fc pC A A := Fc_rf
  have fL : Fc pC L L := Fc_rf
  rw [f_X6_second] at h
  obtain ⟨r1, hc2, h⟩ := Option.bind_eq_some_iff.mp h
  by_cases c_3 : r1 = 0
  · have h := ip c_3 h
    cases h; exact ⟨fI, fG, fA, fL⟩
  · have h := iN c_3 h
    obtain ⟨r4, hc5, h⟩ := Option.bind_eq_some_iff.mp h
    by_cases c_6 : r4 = 0
    · have h := ip c_6 h
      cases h; exact ⟨fI, fG, fA, fL⟩
    · have h := iN c_6 h
      obtain ⟨A7, hc8, h⟩ := Option.bind_eq_some_iff.mp h
      have fA7 : Fc pC A A7 := Fc_tr fA (fr_J7_fill_53178 A 19 (-9) A7 hc8)
      obtain ⟨hn9, h⟩ := gk h
      obtain ⟨⟨I10, G11, A12, L13⟩, hc14, h⟩ := Option.bind_eq_some_iff.mp h
      have fI10 : Fc pC I I10 := Fc_tr fI (fr_X5_plant I G A7 L 46 (58 + 52 * a1.toNatClampNeg) 0 I10 G11 A12 L13 hc14).1
      have fG11 : Fc pC G G11 := Fc_tr fG (fr_X5_plant I G A7 L 46 (58 + 52 * a1.toNatClampNeg) 0 I10 G11 A12 L13 hc14).2.1
      have fA12 : Fc pC A A12 := Fc_tr fA7 (fr_X5_plant I G A7 L 46 (58 + 52 * a1.toNatClampNeg) 0 I10 G11 A12 L13 hc14).2.2.1
      have fL13 : Fc pC L L13 := Fc_tr fL (fr_X5_plant I G A7 L 46 (58 + 52 * a1.toNatClampNeg) 0 I10 G11 A12 L13 hc14).2.2.2
      obtain ⟨k21, ek21, h⟩ := bd_e h
      have kk21 : ∀ (I22 : Nat → Nat → Int32) (A23 : Nat → Nat → Int32) (L24 : Nat → Nat → Int64), k21 I22 A23 L24 = some (r0, I0, G0, A0, L0) → Fc pC I I22 → Fc pC A A23 → Fc pC L L24 → Fc pC I I0 ∧ Fc pC G G0 ∧ Fc pC A A0 ∧ Fc pC L L0 := by
        intro I22 A23 L24 h fI22 fA23 fL24
        subst ek21
        cases h; exact ⟨fI22, fG11, fA23, fL24⟩
      obtain ⟨k25, ek25, h⟩ := bd_e h
      have kk25 : ∀ (v26 : Int32) (I27 : Nat → Nat → Int32) (A28 : Nat → Nat → Int32) (L29 : Nat → Nat → Int64), k25 v26 I27 A28 L29 = some (r0, I0, G0, A0, L0) → Fc pC I I27 → Fc pC A A28 → Fc pC L L29 → Fc pC I I0 ∧ Fc pC G G0 ∧ Fc pC A A0 ∧ Fc pC L L0 := by
        intro v26 I27 A28 L29 h fI27 fA28 fL29
        subst ek25
        obtain ⟨A30, hc31, h⟩ := Option.bind_eq_some_iff.mp h
        have fA30 : Fc pC A A30 := Fc_tr fA28 (fr_X5_copyValues A28 L29 46 v26 19 0 A30 hc31)
        obtain ⟨r32, hc33, h⟩ := Option.bind_eq_some_iff.mp h
        cases h; exact ⟨fI27, fG11, fA30, fL29⟩
      obtain ⟨k34, ek34, h⟩ := bd_e h
      have kk34 : ∀ (I35 : Nat → Nat → Int32) (A36 : Nat → Nat → Int32) (L37 : Nat → Nat → Int64), k34 I35 A36 L37 = some (r0, I0, G0, A0, L0) → Fc pC I I35 → Fc pC A A36 → Fc pC L L37 → Fc pC I I0 ∧ Fc pC G G0 ∧ Fc pC A A0 ∧ Fc pC L L0 := by
        intro I35 A36 L37 h fI35 fA36 fL37
        subst ek34
        obtain ⟨r38, hc39, h⟩ := Option.bind_eq_some_iff.mp h
        by_cases c_40 : r38 = (-1)
        · have h := ip c_40 h
          cases h; exact ⟨fI35, fG11, fA36, fL37⟩
        · have h := iN c_40 h
          cases h; exact ⟨fI35, fG11, fA36, fL37⟩
      have lp15 : ∀ (n : Nat) (v16 : Int32) (v17 : Int32) (I18 : Nat → Nat → Int32) (A19 : Nat → Nat → Int32) (L20 : Nat → Nat → Int64), f_X6_second_L50 G11 k21 k25 k34 n v16 v17 I18 A19 L20 = some (r0, I0, G0, A0, L0) → Fc pC I I18 → Fc pC A A19 → Fc pC L L20 → Fc pC I I0 ∧ Fc pC G G0 ∧ Fc pC A A0 ∧ Fc pC L L0 := by
        intro n
        induction n with
        | zero => intro v16 v17 I18 A19 L20 h; exact absurd h (by rw [f_X6_second_L50]; exact nofun)
        | succ n ih15 =>
          intro v16 v17 I18 A19 L20 h fI18 fA19 fL20
          rw [f_X6_second_L50] at h
          by_cases c_41 : v16 < 250
          · have h := ip c_41 h
            obtain ⟨r42, hc43, h⟩ := Option.bind_eq_some_iff.mp h
            by_cases c_44 : r42 = (-1)
            · have h := ip c_44 h
              exact kk21 I18 A19 L20 h fI18 fA19 fL20
            · have h := iN c_44 h
              obtain ⟨⟨I45, A46, L47⟩, hc48, h⟩ := Option.bind_eq_some_iff.mp h
              have fI45 : Fc pC I I45 := Fc_tr fI18 (fr_X5_finish I18 G11 A19 L20 46 r42 0 I45 A46 L47 hc48).1
              have fA46 : Fc pC A A46 := Fc_tr fA19 (fr_X5_finish I18 G11 A19 L20 46 r42 0 I45 A46 L47 hc48).2.1
              have fL47 : Fc pC L L47 := Fc_tr fL20 (fr_X5_finish I18 G11 A19 L20 46 r42 0 I45 A46 L47 hc48).2.2
              obtain ⟨⟨I49, A50⟩, hc51, h⟩ := Option.bind_eq_some_iff.mp h
              have fI49 : Fc pC I I49 := Fc_tr fI45 (fr_X5_take I45 G11 A46 46 r42 I49 A50 hc51).1
              have fA50 : Fc pC A A50 := Fc_tr fA46 (fr_X5_take I45 G11 A46 46 r42 I49 A50 hc51).2
              obtain ⟨r52, hc53, h⟩ := Option.bind_eq_some_iff.mp h
              by_cases c_54 : r52 = 0
              · have h := ip c_54 h
                exact ih15 (v16 + 1) v17 I49 A50 L47 h fI49 fA50 fL47
              · have h := iN c_54 h
                by_cases c_55 : v17 = 0
                · have h := ip c_55 h
                  exact kk25 r42 I49 A50 L47 h fI49 fA50 fL47
                · have h := iN c_55 h
                  exact ih15 (v16 + 1) (v17 + (-1)) I49 A50 L47 h fI49 fA50 fL47
          · have h := iN c_41 h
            exact kk34 I18 A19 L20 h fI18 fA19 fL20
      exact lp15 FU 0 a2 I10 A12 L13 h fI10 fA12 fL13
set_option maxHeartbeats 4000000 in
set_option maxRecDepth 100000 in
theorem fr_X6_solve (I : Nat → Nat → Int32) (G : Nat → Nat → Nat) (A : Nat → Nat → Int32) (L : Nat → Nat → Int64) (a1 : Int32) (a2 : Int32) (r0 : Int32) (I0 : Nat → Nat → Int32) (G0 : Nat → Nat → Nat) (A0 : Nat → Nat → Int32) (L0 : Nat → Nat → Int64) (h : f_X6_solve I G A L a1 a2 = some (r0, I0, G0, A0, L0)) : Fc pC I I0 ∧ Fc pC G G0 ∧ Fc pC A A0 ∧ Fc pC L L0 := by
  have fI : Fc pC I I := Fc_rf
  have fG : Fc pC G G := Fc_rf
  have fA : Fc pC A A := Fc_rf
  have fL : Fc pC L L := Fc_rf
  rw [f_X6_solve] at h
  obtain ⟨r1, hc2, h⟩ := Option.bind_eq_some_iff.mp h
  by_cases c_3 : r1 = 0
  · have h := ip c_3 h
    cases h; exact ⟨fI, fG, fA, fL⟩
  · have h := iN c_3 h
    obtain ⟨r4, hc5, h⟩ := Option.bind_eq_some_iff.mp h
    by_cases c_6 : r4 = 0
    · have h := ip c_6 h
      cases h; exact ⟨fI, fG, fA, fL⟩
    · have h := iN c_6 h
      obtain ⟨j8, ej8, h⟩ := bd_e h
      have kj8 : ∀ (_ : Unit), j8 () = some (r0, I0, G0, A0, L0) → Fc pC I I0 ∧ Fc pC G G0 ∧ Fc pC A A0 ∧ Fc pC L L0 := by
        intro _ h
        subst ej8
        obtain ⟨j22, ej22, h⟩ := bd_e h
        have kj22 : ∀ (v17 : Int32) (I18 : Nat → Nat → Int32) (G19 : Nat → Nat → Nat) (A20 : Nat → Nat → Int32) (L21 : Nat → Nat → Int64), j22 v17 I18 G19 A20 L21 = some (r0, I0, G0, A0, L0) → Fc pC I I18 → Fc pC G G19 → Fc pC A A20 → Fc pC L L21 → Fc pC I I0 ∧ Fc pC G G0 ∧ Fc pC A A0 ∧ Fc pC L L0 := by
          intro v17 I18 G19 A20 L21 h fI18 fG19 fA20 fL21
          subst ej22
          obtain ⟨k29, ek29, h⟩ := bd_e h
          have kk29 : ∀ (v30 : Int32) (I31 : Nat → Nat → Int32) (A32 : Nat → Nat → Int32) (L33 : Nat → Nat → Int64), k29 v30 I31 A32 L33 = some (r0, I0, G0, A0, L0) → Fc pC I I31 → Fc pC A A32 → Fc pC L L33 → Fc pC I I0 ∧ Fc pC G G0 ∧ Fc pC A A0 ∧ Fc pC L L0 := by
            intro v30 I31 A32 L33 h fI31 fA32 fL33
            subst ek29
            by_cases c_34 : v30 = 0
            · have h := ip c_34 h
              cases h; exact ⟨fI31, fG19, fA32, fL33⟩
            · have h := iN c_34 h
              obtain ⟨⟨I35, G36, A37⟩, hc38, h⟩ := Option.bind_eq_some_iff.mp h
              have fI35 : Fc pC I I35 := Fc_tr fI31 (fr_X6_endSolving I31 G19 A32 L33 v30 I35 G36 A37 hc38).1
              have fG36 : Fc pC G G36 := Fc_tr fG19 (fr_X6_endSolving I31 G19 A32 L33 v30 I35 G36 A37 hc38).2.1
              have fA37 : Fc pC A A37 := Fc_tr fA32 (fr_X6_endSolving I31 G19 A32 L33 v30 I35 G36 A37 hc38).2.2
              cases h; exact ⟨fI35, fG36, fA37, fL33⟩
          have lp23 : ∀ (n : Nat) (v24 : Int32) (v25 : Int32) (I26 : Nat → Nat → Int32) (A27 : Nat → Nat → Int32) (L28 : Nat → Nat → Int64), f_X6_solve_L82 a2 G19 k29 n v24 v25 I26 A27 L28 = some (r0, I0, G0, A0, L0) → Fc pC I I26 → Fc pC A A27 → Fc pC L L28 → Fc pC I I0 ∧ Fc pC G G0 ∧ Fc pC A A0 ∧ Fc pC L L0 := by
            intro n
            induction n with
            | zero => intro v24 v25 I26 A27 L28 h; exact absurd h (by rw [f_X6_solve_L82]; exact nofun)
            | succ n ih23 =>
              intro v24 v25 I26 A27 L28 h fI26 fA27 fL28
              rw [f_X6_solve_L82] at h
              by_cases c_39 : v24 < a2
              · have h := ip c_39 h
                by_cases c_40 : v25 = 0
                · have h := ip c_40 h
                  obtain ⟨⟨r41, I42, A43, L44⟩, hc45, h⟩ := Option.bind_eq_some_iff.mp h
                  have fI42 : Fc pC I I42 := Fc_tr fI26 (fr_X3_takeTurn I26 G19 A27 L28 r41 I42 A43 L44 hc45).1
                  have fA43 : Fc pC A A43 := Fc_tr fA27 (fr_X3_takeTurn I26 G19 A27 L28 r41 I42 A43 L44 hc45).2.1
                  have fL44 : Fc pC L L44 := Fc_tr fL28 (fr_X3_takeTurn I26 G19 A27 L28 r41 I42 A43 L44 hc45).2.2
                  exact ih23 (v24 + 1) r41 I42 A43 L44 h fI42 fA43 fL44
                · have h := iN c_40 h
                  exact kk29 v25 I26 A27 L28 h fI26 fA27 fL28
              · have h := iN c_39 h
                exact kk29 v25 I26 A27 L28 h fI26 fA27 fL28
          exact lp23 FU 0 v17 I18 A20 L21 h fI18 fA20 fL21
        by_cases c_46 : (I 0 5) = (-9)
        · have h := ip c_46 h
          obtain ⟨I47, eI47, h⟩ := bd_e h
          have fI47 : Fc pC I I47 := by rw [eI47]; exact Fc_up fI (show ¬ 318 ≤ 0 by decide)
          obtain ⟨hn48, h⟩ := gk h
          obtain ⟨⟨r49, I50, G51, A52, L53⟩, hc54, h⟩ := Option.bind_eq_some_iff.mp h
          have fI50 : Fc pC I I50 := Fc_tr fI47 (fr_X3_begin I47 G A L (58 + 52 * a1.toNatClampNeg) 2 (I47 0 3) r49 I50 G51 A52 L53 hc54).1
          have fG51 : Fc pC G G51 := Fc_tr fG (fr_X3_begin I47 G A L (58 + 52 * a1.toNatClampNeg) 2 (I47 0 3) r49 I50 G51 A52 L53 hc54).2.1
          have fA52 : Fc pC A A52 := Fc_tr fA (fr_X3_begin I47 G A L (58 + 52 * a1.toNatClampNeg) 2 (I47 0 3) r49 I50 G51 A52 L53 hc54).2.2.1
          have fL53 : Fc pC L L53 := Fc_tr fL (fr_X3_begin I47 G A L (58 + 52 * a1.toNatClampNeg) 2 (I47 0 3) r49 I50 G51 A52 L53 hc54).2.2.2
          exact kj22 r49 I50 G51 A52 L53 h fI50 fG51 fA52 fL53
        · have h := iN c_46 h
          exact kj22 0 I G A L h fI fG fA fL
      by_cases c_55 : (I 0 5) = (-9)
      · have h := ip c_55 h
        exact kj8 () h
      · have h := iN c_55 h
        by_cases c_56 : (I 0 5) = a1
        · have h := ip c_56 h
          exact kj8 () h
        · have h := iN c_56 h
          cases h; exact ⟨fI, fG, fA, fL⟩
set_option maxHeartbeats 4000000 in
set_option maxRecDepth 100000 in
theorem fr_X6_turn (I : Nat → Nat → Int32) (A : Nat → Nat → Int32) (a1 : Int32) (r0 : Int32) (I0 : Nat → Nat → Int32) (A0 : Nat → Nat → Int32) (h : f_X6_turn I A a1 = some (r0, I0, A0)) : Fc pC I I0 ∧ Fc pC A A0 := by
  have fI : Fc pC I I := Fc_rf
  have fA : Fc pC A A := Fc_rf
  rw [f_X6_turn] at h
  obtain ⟨r1, hc2, h⟩ := Option.bind_eq_some_iff.mp h
  by_cases c_3 : r1 = 0
  · have h := ip c_3 h
    cases h; exact ⟨fI, fA⟩
  · have h := iN c_3 h
    by_cases c_4 : (I 0 5) = (-9)
    · have h := ip c_4 h
      by_cases c_5 : (I 2 1) < 200
      · have h := ip c_5 h
        obtain ⟨hn6, h⟩ := gk h
        obtain ⟨A7, eA7, h⟩ := bd_e h
        have fA7 : Fc pC A A7 := by rw [eA7]; exact Fc_up fA (show ¬ 318 ≤ 4 by decide)
        obtain ⟨I8, eI8, h⟩ := bd_e h
        have fI8 : Fc pC I I8 := by rw [eI8]; exact Fc_up fI (show ¬ 318 ≤ 2 by decide)
        cases h; exact ⟨fI8, fA7⟩
      · have h := iN c_5 h
        cases h; exact ⟨fI, fA⟩
    · have h := iN c_4 h
      cases h; exact ⟨fI, fA⟩
set_option maxHeartbeats 4000000 in
set_option maxRecDepth 100000 in
theorem fr_X1_addVariable (I : Nat → Nat → Int32) (A : Nat → Nat → Int32) (o : Nat) (a1 : Int32) (a2 : Int32) (r0 : Int32) (I0 : Nat → Nat → Int32) (A0 : Nat → Nat → Int32) (h : f_X1_addVariable I A o a1 a2 = some (r0, I0, A0)) : Fc pC I I0 ∧ Fc pC A A0 := by
  have fI : Fc pC I I := Fc_rf
  have fA : Fc pC A A := Fc_rf
  rw [f_X1_addVariable] at h
  obtain ⟨hk1, h⟩ := gk h
  obtain ⟨I2, hc3, h⟩ := Option.bind_eq_some_iff.mp h
  have fI2 : Fc pC I I2 := Fc_tr fI (fr_X1_change I o I2 hc3)
  obtain ⟨hk4, h⟩ := gk h
  obtain ⟨hn5, h⟩ := gk h
  obtain ⟨A6, eA6, h⟩ := bd_e h
  have fA6 : Fc pC A A6 := by rw [eA6]; exact Fc_up fA (Nat.not_le.mpr hk4.1)
  obtain ⟨hk7, h⟩ := gk h
  obtain ⟨hn8, h⟩ := gk h
  obtain ⟨A9, eA9, h⟩ := bd_e h
  have fA9 : Fc pC A A9 := by rw [eA9]; exact Fc_up fA6 (Nat.not_le.mpr hk7.1)
  obtain ⟨I10, eI10, h⟩ := bd_e h
  have fI10 : Fc pC I I10 := by rw [eI10]; exact Fc_up fI2 (Nat.not_le.mpr hk1.1)
  cases h; exact ⟨fI10, fA9⟩
set_option maxHeartbeats 4000000 in
set_option maxRecDepth 100000 in
theorem fr_X6_variable (I : Nat → Nat → Int32) (A : Nat → Nat → Int32) (a1 : Int32) (a2 : Int32) (a3 : Int32) (r0 : Int32) (I0 : Nat → Nat → Int32) (A0 : Nat → Nat → Int32) (h : f_X6_variable I A a1 a2 a3 = some (r0, I0, A0)) : Fc pC I I0 ∧ Fc pC A A0 := by
  have fI : Fc pC I I := Fc_rf
  have fA : Fc pC A A := Fc_rf
  rw [f_X6_variable] at h
  obtain ⟨r1, hc2, h⟩ := Option.bind_eq_some_iff.mp h
  by_cases c_3 : r1 = 0
  · have h := ip c_3 h
    cases h; exact ⟨fI, fA⟩
  · have h := iN c_3 h
    obtain ⟨r4, hc5, h⟩ := Option.bind_eq_some_iff.mp h
    by_cases c_6 : r4 = 0
    · have h := ip c_6 h
      cases h; exact ⟨fI, fA⟩
    · have h := iN c_6 h
      obtain ⟨r7, hc8, h⟩ := Option.bind_eq_some_iff.mp h
      by_cases c_9 : r7 = 0
      · have h := ip c_9 h
        cases h; exact ⟨fI, fA⟩
      · have h := iN c_9 h
        by_cases c_10 : (I 0 5) = (-9)
        · have h := ip c_10 h
          obtain ⟨hn11, h⟩ := gk h
          obtain ⟨hk12, h⟩ := gk h
          by_cases c_13 : (I (58 + 52 * a1.toNatClampNeg) 0) < 6
          · have h := ip c_13 h
            obtain ⟨⟨r14, I15, A16⟩, hc17, h⟩ := Option.bind_eq_some_iff.mp h
            have fI15 : Fc pC I I15 := Fc_tr fI (fr_X1_addVariable I A (58 + 52 * a1.toNatClampNeg) a2 a3 r14 I15 A16 hc17).1
            have fA16 : Fc pC A A16 := Fc_tr fA (fr_X1_addVariable I A (58 + 52 * a1.toNatClampNeg) a2 a3 r14 I15 A16 hc17).2
            cases h; exact ⟨fI15, fA16⟩
          · have h := iN c_13 h
            cases h; exact ⟨fI, fA⟩
        · have h := iN c_10 h
          cases h; exact ⟨fI, fA⟩
set_option maxHeartbeats 4000000 in
set_option maxRecDepth 100000 in
theorem fr_X6_with (I : Nat → Nat → Int32) (A : Nat → Nat → Int32) (a1 : Int32) (r0 : Int32) (I0 : Nat → Nat → Int32) (A0 : Nat → Nat → Int32) (h : f_X6_with I A a1 = some (r0, I0, A0)) : Fc pC I I0 ∧ Fc pC A A0 := by
  have fI : Fc pC I I := Fc_rf
  have fA : Fc pC A A := Fc_rf
  rw [f_X6_with] at h
  by_cases c_1 : (I 0 7) = (-9)
  · have h := ip c_1 h
    cases h; exact ⟨fI, fA⟩
  · have h := iN c_1 h
    obtain ⟨hn2, h⟩ := gk h
    obtain ⟨hk3, h⟩ := gk h
    obtain ⟨r4, hc5, h⟩ := Option.bind_eq_some_iff.mp h
    by_cases c_6 : r4 = 0
    · have h := ip c_6 h
      cases h; exact ⟨fI, fA⟩
    · have h := iN c_6 h
      obtain ⟨hn7, h⟩ := gk h
      obtain ⟨A8, eA8, h⟩ := bd_e h
      have fA8 : Fc pC A A8 := by rw [eA8]; exact Fc_up fA (show ¬ 318 ≤ 18 by decide)
      obtain ⟨I9, eI9, h⟩ := bd_e h
      have fI9 : Fc pC I I9 := by rw [eI9]; exact Fc_up fI (show ¬ 318 ≤ 0 by decide)
      cases h; exact ⟨fI9, fA8⟩
