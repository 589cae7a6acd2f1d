/-! THE METHODS AS FUNCTIONS (dec.py): small words. -/
/-- a thing gets a name -/
def bd {α β : Type} (t : α) (f : α → β) : β := f t
theorem bd_e {α β : Type} {t : α} {f : α → Option β} {x : β} (h : bd t f = some x) : ∃ z, z = t ∧ f z = some x := ⟨t, rfl, h⟩
theorem ip {β : Type} {c : Prop} {_ : Decidable c} {a b : Option β} {x : β} (hc : c) (h : (if c then a else b) = some x) : a = some x := by rwa [if_pos hc] at h
theorem iN {β : Type} {c : Prop} {_ : Decidable c} {a b : Option β} {x : β} (hc : ¬ c) (h : (if c then a else b) = some x) : b = some x := by rwa [if_neg hc] at h
/-- goes on only if c holds -/
def gd {β : Type} (c : Prop) [Decidable c] (a : Option β) : Option β := if c then a else none
theorem gk {β : Type} {c : Prop} {_ : Decidable c} {a : Option β} {x : β} (h : gd c a = some x) : c ∧ a = some x := by
  unfold gd at h
  by_cases hc : c
  · rw [if_pos hc] at h; exact ⟨hc, h⟩
  · rw [if_neg hc] at h; cases h
theorem gd_t {β : Type} {c : Prop} {_ : Decidable c} {a : Option β} (hc : c) : gd c a = a := if_pos hc
/-- an index in its range -/
abbrev inr (i : Int32) (n : Nat) : Prop := ¬ (i < 0 ∨ n ≤ i.toNatClampNeg)
theorem FU_x : ∃ n : Nat, 2000000 ≤ n := ⟨2000000, Nat.le_refl _⟩
/-- enough steps for every loop -/
noncomputable def FU : Nat := Classical.choose FU_x
theorem FU_le : 2000000 ≤ FU := Classical.choose_spec FU_x
theorem drf13 {j n : Nat} (h : kd j = 13) : rf j n = 58 + 52 * n := by simp [rf, h]
theorem drf14 {j n : Nat} (h : kd j = 14) : rf j n = j + 2 + 5 * n := by simp [rf, h]
theorem drf15 {j n : Nat} (h : kd j = 15) : rf j n = j + 1 + n := by simp [rf, h]
/-- the other side's slots stay -/
def pC (j : Nat) : Prop := 318 ≤ j
def pR (j : Nat) : Prop := j < 318
def Fc {α : Type} (P : Nat → Prop) (F0 F : Nat → Nat → α) : Prop := ∀ j, P j → F j = F0 j
theorem Fc_rf {α : Type} {P : Nat → Prop} {F : Nat → Nat → α} : Fc P F F := fun _ _ => rfl
theorem Fc_tr {α : Type} {P : Nat → Prop} {F0 F1 F2 : Nat → Nat → α} (h : Fc P F0 F1) (k : Fc P F1 F2) : Fc P F0 F2 := fun j hj => (k j hj).trans (h j hj)
theorem Fc_up {α : Type} {P : Nat → Prop} {F0 F : Nat → Nat → α} {s k : Nat} {v : α} (h : Fc P F0 F) (hs : ¬ P s) : Fc P F0 (up2 F s k v) := fun j hj => (up2_oth (i := j) (j := s) (fun e => hs (by rw [← e]; exact hj))).trans (h j hj)
theorem s318 {j : Nat} (h : j < 318) : j < NS := Nat.lt_trans h (by decide)
section DEC
variable {p : Program} {l : Launch} {e : Env} {R : Room} {s : State} {m : MethodId} {args : Array Value} {below : List Frame} {meth : Method} {c : Code} {H : Heap} {locs : List Loc} {cells slots : Nat} {Q : State → Prop}
variable {pc : Nat} {ls : Array Slot} {rest : List Value} {D : va_G} {K : Nat → ClassId} {ad : Nat → Nat} {M : Mem}
variable {y : MethodName} {bytes cc : ByteArray} {maxL nL n index fr lo : Nat} {ret : Option FieldType} {ws : List Cond} {Ts : List Cond} {own C : String} {As : List Value} {j : Nat}
theorem W_top {x z : Int32} (h : x = z) (k : W p l e R s m args below meth c H locs cells slots Q (F0 m pc ls (.int z :: rest))) : W p l e R s m args below meth c H locs cells slots Q (F0 m pc ls (.int x :: rest)) := by rw [h]; exact k
theorem vlenZ {cc : ByteArray} {I : Nat → Nat → Int32} {G : Nat → Nat → Nat} {A : Nat → Nat → Int32} {L : Nat → Nat → Int64} (hx : p.tables.exec = Jvm.exec) (hb : c.code = cc) (hK : va_K D vwCl (tyA K) s) (hP : va_P D vwCl (VW K ad I G A L) H) (j : Nat) (hj : j < NS) (hd : kd j = 11) (hdg : decode cc pc = .ok (.arraylength, 1)) (kk : W p l e R s m args below meth c H locs cells slots Q (F0 m (pc + 1) ls (.int (nI (ln j)) :: rest))) : W p l e R s m args below meth c H locs cells slots Q (F0 m pc ls (.ref (ad j) :: rest)) :=
  va_alen hx hb hK hP j 3 (VW11 hj hd) rfl rfl hdg kk
theorem ecV {r0 : Int32} {u0 : Mem} (S : CallFix p m c cc nL s args Ts own) (hM : Ci l D K ad y ws fr lo (.ref (ad j) :: As) M (fun r u => r = r0 ∧ u = u0)) (cw : CallW R s args own C index y bytes maxL ret ws ({ frames := fr, cells := 0, slots := 0, locals := lo }) 0 0 n) (hK : va_K D vwCl (tyA K) s) (hP : va_P D vwCl (VM K ad M) H) (hS : va_S (vF ad s.heap.size) s.heap H locs) {ci : Nat} {cq : vw_C} (hj : j < NS) (hd : kd j = ci) (hci : ci < 8) (hc : vwCl[ci]? = some cq) (hC : cq.1 = C)
    (hn : As.length = n) (hl : ls.size = nL) (hroom : (rest.map fun v => v.category).sum ≤ 8) (hcl : cells ≤ R.cells) (hsl : slots ≤ R.slots) (hdg : decode cc pc = .ok (.invokevirtual index, 3))
    (kk : ∀ (H1 : Heap) (locs1 : List Loc), va_P D vwCl (VM K ad u0) H1 → va_S (vF ad s.heap.size) s.heap H1 locs1 → W p l e R s m args below meth c H1 locs1 cells slots Q (F0 m (pc + 3) ls (.int r0 :: rest))) {st : List Value} (hst : st = As.reverse ++ .ref (ad j) :: rest) : W p l e R s m args below meth c H locs cells slots Q (F0 m pc ls st) :=
  vcV S hM cw hK hP hS hj hd hci hc hC hn hl hroom hcl hsl hdg (fun r u H1 locs1 hw hP1 hS1 => by obtain ⟨h1, h2⟩ := hw; subst h1; subst h2; exact kk H1 locs1 hP1 hS1) hst
theorem ecVv {u0 : Mem} (S : CallFix p m c cc nL s args Ts own) (hM : Cv l D K ad y ws fr lo (.ref (ad j) :: As) M (fun u => u = u0)) (cw : CallW R s args own C index y bytes maxL ret ws ({ frames := fr, cells := 0, slots := 0, locals := lo }) 0 0 n) (hK : va_K D vwCl (tyA K) s) (hP : va_P D vwCl (VM K ad M) H) (hS : va_S (vF ad s.heap.size) s.heap H locs) {ci : Nat} {cq : vw_C} (hj : j < NS) (hd : kd j = ci) (hci : ci < 8) (hc : vwCl[ci]? = some cq) (hC : cq.1 = C)
    (hn : As.length = n) (hl : ls.size = nL) (hroom : (rest.map fun v => v.category).sum ≤ 8) (hcl : cells ≤ R.cells) (hsl : slots ≤ R.slots) (hdg : decode cc pc = .ok (.invokevirtual index, 3))
    (kk : ∀ (H1 : Heap) (locs1 : List Loc), va_P D vwCl (VM K ad u0) H1 → va_S (vF ad s.heap.size) s.heap H1 locs1 → W p l e R s m args below meth c H1 locs1 cells slots Q (F0 m (pc + 3) ls rest)) {st : List Value} (hst : st = As.reverse ++ .ref (ad j) :: rest) : W p l e R s m args below meth c H locs cells slots Q (F0 m pc ls st) :=
  vcVv S hM cw hK hP hS hj hd hci hc hC hn hl hroom hcl hsl hdg (fun u H1 locs1 hw hP1 hS1 => by subst hw; exact kk H1 locs1 hP1 hS1) hst
theorem ecS {r0 : Int32} {u0 : Mem} (S : CallFix p m c cc nL s args Ts own) (hM : Ci l D K ad y ws fr lo As M (fun r u => r = r0 ∧ u = u0)) (cw : CallB R s args own index y bytes maxL ret ws ({ frames := fr, cells := 0, slots := 0, locals := lo }) 0 0 n ∧ (Cond.static y).before args s = true) (hK : va_K D vwCl (tyA K) s) (hP : va_P D vwCl (VM K ad M) H) (hS : va_S (vF ad s.heap.size) s.heap H locs)
    (hn : As.length = n) (hl : ls.size = nL) (hroom : (rest.map fun v => v.category).sum ≤ 8) (hcl : cells ≤ R.cells) (hsl : slots ≤ R.slots) (hdg : decode cc pc = .ok (.invokestatic index, 3))
    (kk : ∀ (H1 : Heap) (locs1 : List Loc), va_P D vwCl (VM K ad u0) H1 → va_S (vF ad s.heap.size) s.heap H1 locs1 → W p l e R s m args below meth c H1 locs1 cells slots Q (F0 m (pc + 3) ls (.int r0 :: rest))) {st : List Value} (hst : st = As.reverse ++ rest) : W p l e R s m args below meth c H locs cells slots Q (F0 m pc ls st) :=
  vcS S hM cw hK hP hS hn hl hroom hcl hsl hdg (fun r u H1 locs1 hw hP1 hS1 => by obtain ⟨h1, h2⟩ := hw; subst h1; subst h2; exact kk H1 locs1 hP1 hS1) hst
theorem ecSv {u0 : Mem} (S : CallFix p m c cc nL s args Ts own) (hM : Cv l D K ad y ws fr lo As M (fun u => u = u0)) (cw : CallB R s args own index y bytes maxL ret ws ({ frames := fr, cells := 0, slots := 0, locals := lo }) 0 0 n ∧ (Cond.static y).before args s = true) (hK : va_K D vwCl (tyA K) s) (hP : va_P D vwCl (VM K ad M) H) (hS : va_S (vF ad s.heap.size) s.heap H locs)
    (hn : As.length = n) (hl : ls.size = nL) (hroom : (rest.map fun v => v.category).sum ≤ 8) (hcl : cells ≤ R.cells) (hsl : slots ≤ R.slots) (hdg : decode cc pc = .ok (.invokestatic index, 3))
    (kk : ∀ (H1 : Heap) (locs1 : List Loc), va_P D vwCl (VM K ad u0) H1 → va_S (vF ad s.heap.size) s.heap H1 locs1 → W p l e R s m args below meth c H1 locs1 cells slots Q (F0 m (pc + 3) ls rest)) {st : List Value} (hst : st = As.reverse ++ rest) : W p l e R s m args below meth c H locs cells slots Q (F0 m pc ls st) :=
  vcSv S hM cw hK hP hS hn hl hroom hcl hsl hdg (fun u H1 locs1 hw hP1 hS1 => by subst hw; exact kk H1 locs1 hP1 hS1) hst
end DEC
theorem sw_6 (x : Int32) : x = 0 ∨ x = 1 ∨ x = 2 ∨ x = 3 ∨ x = 4 ∨ x = 5 ∨ x = 6 ∨ (x.toInt < 0 ∨ 6 < x.toInt) := by
  rcases sw_k x 0 with h | h0
  · exact Or.inl h
  rcases sw_k x 1 with h | h1
  · exact Or.inr (Or.inl h)
  rcases sw_k x 2 with h | h2
  · exact Or.inr (Or.inr (Or.inl h))
  rcases sw_k x 3 with h | h3
  · exact Or.inr (Or.inr (Or.inr (Or.inl h)))
  rcases sw_k x 4 with h | h4
  · exact Or.inr (Or.inr (Or.inr (Or.inr (Or.inl h))))
  rcases sw_k x 5 with h | h5
  · exact Or.inr (Or.inr (Or.inr (Or.inr (Or.inr (Or.inl h)))))
  rcases sw_k x 6 with h | h6
  · exact Or.inr (Or.inr (Or.inr (Or.inr (Or.inr (Or.inr (Or.inl h))))))
  have e0 : (0 : Int32).toInt = 0 := by decide
  have e1 : (1 : Int32).toInt = 1 := by decide
  have e2 : (2 : Int32).toInt = 2 := by decide
  have e3 : (3 : Int32).toInt = 3 := by decide
  have e4 : (4 : Int32).toInt = 4 := by decide
  have e5 : (5 : Int32).toInt = 5 := by decide
  have e6 : (6 : Int32).toInt = 6 := by decide
  refine Or.inr (Or.inr (Or.inr (Or.inr (Or.inr (Or.inr (Or.inr (?_)))))))
  omega
theorem sw_9 (x : Int32) : x = 0 ∨ x = 1 ∨ x = 2 ∨ x = 3 ∨ x = 4 ∨ x = 5 ∨ x = 6 ∨ x = 7 ∨ x = 8 ∨ x = 9 ∨ (x.toInt < 0 ∨ 9 < x.toInt) := by
  rcases sw_k x 0 with h | h0
  · exact Or.inl h
  rcases sw_k x 1 with h | h1
  · exact Or.inr (Or.inl h)
  rcases sw_k x 2 with h | h2
  · exact Or.inr (Or.inr (Or.inl h))
  rcases sw_k x 3 with h | h3
  · exact Or.inr (Or.inr (Or.inr (Or.inl h)))
  rcases sw_k x 4 with h | h4
  · exact Or.inr (Or.inr (Or.inr (Or.inr (Or.inl h))))
  rcases sw_k x 5 with h | h5
  · exact Or.inr (Or.inr (Or.inr (Or.inr (Or.inr (Or.inl h)))))
  rcases sw_k x 6 with h | h6
  · exact Or.inr (Or.inr (Or.inr (Or.inr (Or.inr (Or.inr (Or.inl h))))))
  rcases sw_k x 7 with h | h7
  · exact Or.inr (Or.inr (Or.inr (Or.inr (Or.inr (Or.inr (Or.inr (Or.inl h)))))))
  rcases sw_k x 8 with h | h8
  · exact Or.inr (Or.inr (Or.inr (Or.inr (Or.inr (Or.inr (Or.inr (Or.inr (Or.inl h))))))))
  rcases sw_k x 9 with h | h9
  · exact Or.inr (Or.inr (Or.inr (Or.inr (Or.inr (Or.inr (Or.inr (Or.inr (Or.inr (Or.inl h)))))))))
  have e0 : (0 : Int32).toInt = 0 := by decide
  have e1 : (1 : Int32).toInt = 1 := by decide
  have e2 : (2 : Int32).toInt = 2 := by decide
  have e3 : (3 : Int32).toInt = 3 := by decide
  have e4 : (4 : Int32).toInt = 4 := by decide
  have e5 : (5 : Int32).toInt = 5 := by decide
  have e6 : (6 : Int32).toInt = 6 := by decide
  have e7 : (7 : Int32).toInt = 7 := by decide
  have e8 : (8 : Int32).toInt = 8 := by decide
  have e9 : (9 : Int32).toInt = 9 := by decide
  refine Or.inr (Or.inr (Or.inr (Or.inr (Or.inr (Or.inr (Or.inr (Or.inr (Or.inr (Or.inr (?_))))))))))
  omega
