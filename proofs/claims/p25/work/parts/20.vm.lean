/-! THE MEMORY. Behind the two constructors nothing is made any more: the class's 318 cells and the reference's are slots 0 .. NS-1, at the addresses ad 0 ..; what they hold is four functions: I (int and boolean fields, by slot and field), G (the few references that change: the slot they point to), A (int, byte, short, boolean arrays), L (long arrays). -/
def up2 {α : Type} (F : Nat → Nat → α) (j k : Nat) (v : α) : Nat → Nat → α := fun a b => if a = j ∧ b = k then v else F a b
theorem up2_s {α : Type} (F : Nat → Nat → α) (j k : Nat) (v : α) : up2 F j k v j k = v := by simp [up2]
theorem up2_j {α : Type} {F : Nat → Nat → α} {j k a b : Nat} {v : α} (h : a ≠ j) : up2 F j k v a b = F a b := by simp [up2, h]
theorem up2_k {α : Type} {F : Nat → Nat → α} {j k a b : Nat} {v : α} (h : b ≠ k) : up2 F j k v a b = F a b := by simp [up2, h]
-- kinds: 0 .. 7 the classes of vwCl; 8 int[], 9 byte[], 10 short[], 11 boolean[], 12 long[], 13 Problem[], 14 Rule[], 15 int[][]
/-- the slots of a tree, by their distance from its object -/
def kdT (o : Nat) : Nat := [5, 12, 9, 9, 9, 9, 9, 10, 11, 8, 8, 0].getD o 99
/-- the slots of a problem: object, sizes, kinds, prices, its six rows, rules, outcome, then five for each rule: object, variables, weights, isPart, weightOf -/
def kdP (o : Nat) : Nat := if o < 12 then [1, 8, 8, 15, 8, 8, 8, 8, 8, 8, 14, 8].getD o 99 else [2, 8, 8, 11, 8].getD ((o - 12) % 5) 99
/-- the reference's arrays, in the order of its fields -/
def kdM (o : Nat) : Nat := if o = 0 then 7 else if o ∈ [26, 27, 33, 34, 54, 55] then 11 else 8
def kd (j : Nat) : Nat := if j < 22 then [6, 13, 4, 8, 8, 8, 8, 8, 4, 8, 8, 8, 8, 8, 3, 8, 8, 0, 8, 8, 8, 8].getD j 99 else if j < 58 then kdT ((j - 22) % 12) else if j < 318 then kdP ((j - 58) % 52) else kdM (j - 318)
abbrev NS : Nat := 378
/-- the places of an array -/
def ln (j : Nat) : Nat := if j < 22 then [0, 5, 0, 5, 200, 5, 5, 5, 0, 5, 200, 5, 5, 5, 0, 5, 5, 0, 6, 6, 12, 12].getD j 0 else if j < 58 then (if (j - 22) % 12 = 9 then 250 else if (j - 22) % 12 = 10 then 6 else if j < 46 then 1711 else 1501) else if j < 318 then (if (j - 58) % 52 = 10 then 8 else if (j - 58) % 52 = 11 then 12 else 6) else [0, 5, 5, 30, 30, 180, 40, 40, 40, 240, 240, 5, 5, 200, 5, 5, 5, 5, 5, 5, 2000, 12000, 2000, 2000, 2000, 2000, 2000, 2000, 250, 12000, 12000, 2000, 30, 5, 5, 30, 250, 1500, 250, 250, 250, 250, 1500, 1500, 6, 6, 6, 3, 2000, 12000, 2000, 2000, 2000, 2000, 2000, 2000, 250, 12000, 12000, 2000].getD (j - 318) 0
/-- what a field is: 0 a number, 1 a slot at a distance from its object, 2 a slot by its number, 3 a slot that changes -/
def rk (ci k : Nat) : Nat := if ci = 1 then (if k < 4 then 0 else 1) else if ci = 2 then (if k < 3 then 0 else 1) else if ci = 3 then [3, 3, 0, 0, 1, 1].getD k 0 else if ci = 4 then (if k < 2 then 0 else 1) else if ci = 5 then (if k < 9 then 1 else if k < 12 then 0 else if k < 14 then 1 else if k = 14 then 3 else 0) else if ci = 6 then [2, 0, 2, 0, 2, 0, 3, 0, 0, 0, 2, 2, 2, 2, 2, 2, 2, 0].getD k 0 else if ci = 7 then [0, 0, 0, 2, 2, 2, 2, 2, 2, 2, 2, 2, 2, 2, 0, 0, 2, 2, 0, 0, 2, 2, 2, 0, 0, 2, 2, 2, 0, 0, 0, 0, 2, 2, 2, 2, 2, 2, 2, 2, 2, 2, 2, 2, 2, 2, 2, 2, 0, 2, 2, 2, 2, 2, 2, 2, 2, 0, 0, 0, 2, 0, 2, 2, 0, 0, 2, 2, 2, 2, 2, 2, 2, 2, 2, 2, 2, 2, 2].getD k 0 else 0
def of (ci k : Nat) : Nat := if ci = 1 then [0, 0, 0, 0, 1, 2, 3, 10, 11].getD k 0 else if ci = 2 then k - 2 else if ci = 3 then k - 3 else if ci = 4 then k - 1 else if ci = 5 then (if k < 9 then k + 1 else k - 2) else if ci = 6 then [1, 0, 2, 0, 14, 0, 0, 0, 0, 0, 18, 17, 46, 19, 8, 20, 21, 0].getD k 0 else if ci = 7 then [0, 0, 0, 319, 320, 321, 322, 323, 324, 325, 326, 327, 328, 329, 0, 0, 330, 331, 0, 0, 332, 333, 334, 0, 0, 335, 336, 337, 0, 0, 0, 0, 338, 339, 340, 341, 342, 343, 344, 345, 346, 347, 348, 349, 350, 351, 352, 353, 0, 354, 355, 356, 357, 358, 359, 360, 361, 0, 0, 0, 362, 0, 363, 364, 0, 0, 365, 366, 367, 368, 369, 370, 371, 372, 373, 374, 375, 376, 377].getD k 0 else 0
def nf (ci : Nat) : Nat := [3, 9, 7, 6, 7, 16, 18, 79].getD ci 0
def fd (ad : Nat → Nat) (I : Nat → Nat → Int32) (G : Nat → Nat → Nat) (ci j k : Nat) : Value := if rk ci k = 0 then .int (I j k) else if rk ci k = 1 then .ref (ad (j + of ci k)) else if rk ci k = 2 then .ref (ad (of ci k)) else .ref (ad (G j k))
def fds (ad : Nat → Nat) (I : Nat → Nat → Int32) (G : Nat → Nat → Nat) (ci j : Nat) : List Value := (List.range (nf ci)).map (fd ad I G ci j)
/-- the slot that an array of references holds at i -/
def rf (j i : Nat) : Nat := if kd j = 13 then 58 + 52 * i else if kd j = 14 then j + 2 + 5 * i else j + 1 + i
/-- the array classes: int, byte, short, boolean, long, Problem, Rule, int[] -/
def ck (K : Nat → ClassId) (k : Nat) : ClassId := K (k - 8)
def cell (K : Nat → ClassId) (ad : Nat → Nat) (I : Nat → Nat → Int32) (G : Nat → Nat → Nat) (A : Nat → Nat → Int32) (L : Nat → Nat → Int64) (j : Nat) : va_E :=
  if kd j < 8 then .inr (kd j, fds ad I G (kd j) j) else if kd j < 12 then .inl (ck K (kd j), ln j, .inl (A j)) else if kd j = 12 then .inl (ck K 12, ln j, .inr (.inl (L j))) else .inl (ck K (kd j), ln j, .inr (.inr (.inr (.inr (fun i => if i < ln j then some (ad (rf j i)) else none)))))
def VW (K : Nat → ClassId) (ad : Nat → Nat) (I : Nat → Nat → Int32) (G : Nat → Nat → Nat) (A : Nat → Nat → Int32) (L : Nat → Nat → Int64) : va_W := (List.range NS).map (fun j => (ad j, cell K ad I G A L j))
def tyA (K : Nat → ClassId) : List (ClassId × FieldType) := [(K 0, .int), (K 1, .byte), (K 2, .short), (K 3, .boolean), (K 4, .long), (K 5, .object RX1), (K 6, .object RX2), (K 7, .array .int)]
theorem VW_at {K : Nat → ClassId} {ad : Nat → Nat} {I : Nat → Nat → Int32} {G : Nat → Nat → Nat} {A : Nat → Nat → Int32} {L : Nat → Nat → Int64} {j : Nat} (hj : j < NS) : (VW K ad I G A L)[j]? = some (ad j, cell K ad I G A L j) := by
  simp [VW, List.getElem?_map, List.getElem?_range hj]
theorem mp_set {ad : Nat → Nat} {f g : Nat → va_E} {n j : Nat} {e : va_E} (h1 : g j = e) (h2 : ∀ i, i ≠ j → g i = f i) : ((List.range n).map (fun i => (ad i, f i))).set j (ad j, e) = (List.range n).map (fun i => (ad i, g i)) := by
  apply List.ext_getElem?
  intro i
  rw [List.getElem?_set]
  by_cases hij : j = i
  · subst hij
    by_cases hl : j < n
    · simp [hl, h1]
    · simp [hl]
  · rw [if_neg hij, List.getElem?_map, List.getElem?_map]
    by_cases hl : i < n
    · rw [List.getElem?_range hl]; simp [h2 i (Ne.symm hij)]
    · rw [List.getElem?_eq_none (by simpa using hl)]; rfl
theorem fds_at {ad : Nat → Nat} {I : Nat → Nat → Int32} {G : Nat → Nat → Nat} {ci j k : Nat} (hk : k < nf ci) : (fds ad I G ci j)[k]? = some (fd ad I G ci j k) := by
  simp [fds, List.getElem?_map, List.getElem?_range hk]
theorem ran_set {α : Type} {f g : Nat → α} {n k : Nat} {v : α} (h1 : g k = v) (h2 : ∀ i, i ≠ k → g i = f i) : ((List.range n).map f).set k v = (List.range n).map g := by
  apply List.ext_getElem?
  intro i
  rw [List.getElem?_set]
  by_cases hij : k = i
  · subst hij
    by_cases hl : k < n
    · simp [hl, h1]
    · simp [hl]
  · rw [if_neg hij, List.getElem?_map, List.getElem?_map]
    by_cases hl : i < n
    · rw [List.getElem?_range hl]; simp [h2 i (Ne.symm hij)]
    · rw [List.getElem?_eq_none (by simpa using hl)]; rfl
section VMS
variable {K : Nat → ClassId} {ad : Nat → Nat} {I : Nat → Nat → Int32} {G : Nat → Nat → Nat} {A : Nat → Nat → Int32} {L : Nat → Nat → Int64}
theorem cell_o {j ci : Nat} (h : kd j = ci) (hc : ci < 8) : cell K ad I G A L j = .inr (ci, fds ad I G ci j) := by subst h; simp [cell, hc]
theorem cell_a {j q : Nat} (h : kd j = q) (h1 : 8 ≤ q) (h2 : q < 12) : cell K ad I G A L j = .inl (ck K q, ln j, .inl (A j)) := by subst h; simp [cell, h2, Nat.not_lt.mpr h1]
theorem cell_l {j : Nat} (h : kd j = 12) : cell K ad I G A L j = .inl (ck K 12, ln j, .inr (.inl (L j))) := by simp [cell, h]
theorem cell_q {j q : Nat} (h : kd j = q) (h1 : 13 ≤ q) : cell K ad I G A L j = .inl (ck K q, ln j, .inr (.inr (.inr (.inr (fun i => if i < ln j then some (ad (rf j i)) else none))))) := by
  subst h
  have a : ¬ kd j < 8 := by omega
  have b : ¬ kd j < 12 := by omega
  have c : ¬ kd j = 12 := by omega
  simp only [cell, if_neg a, if_neg b, if_neg c]
theorem VW_I {j k ci : Nat} {v : Int32} (h : kd j = ci) (hc : ci < 8) (hr : rk ci k = 0) : (VW K ad I G A L).set j (ad j, .inr (ci, (fds ad I G ci j).set k (.int v))) = VW K ad (up2 I j k v) G A L := by
  refine mp_set (g := cell K ad (up2 I j k v) G A L) ?_ (fun i hi => ?_)
  · rw [cell_o h hc]
    refine congrArg (fun x => Sum.inr (ci, x)) ?_
    exact (ran_set (by simp [fd, hr, up2_s]) (fun i hi => by simp only [fd]; rw [up2_k hi])).symm
  · unfold cell fds
    have e : ∀ c, fd ad (up2 I j k v) G c i = fd ad I G c i := fun c => funext fun x => by simp only [fd]; rw [up2_j hi]
    rw [e]
theorem VW_R {j k ci q : Nat} (h : kd j = ci) (hc : ci < 8) (hr : rk ci k = 3) : (VW K ad I G A L).set j (ad j, .inr (ci, (fds ad I G ci j).set k (.ref (ad q)))) = VW K ad I (up2 G j k q) A L := by
  refine mp_set (g := cell K ad I (up2 G j k q) A L) ?_ (fun i hi => ?_)
  · rw [cell_o h hc]
    refine congrArg (fun x => Sum.inr (ci, x)) ?_
    exact (ran_set (by simp [fd, hr, up2_s]) (fun i hi => by simp only [fd]; rw [up2_k hi])).symm
  · unfold cell fds
    have e : ∀ c, fd ad I (up2 G j k q) c i = fd ad I G c i := fun c => funext fun x => by simp only [fd]; rw [up2_j hi]
    rw [e]
theorem up2_row (F : Nat → Nat → Int32) (j k : Nat) (v : Int32) : up2 F j k v j = upd (F j) k v := by
  funext b
  by_cases h : b = k
  · subst h; rw [up2_s, pk_us]
  · rw [up2_k h, pk_un h]
theorem up2_rowL (F : Nat → Nat → Int64) (j k : Nat) (v : Int64) : up2 F j k v j = vp_updL (F j) k v := by
  funext b
  by_cases h : b = k
  · subst h; rw [up2_s, pk_uLs]
  · rw [up2_k h, pk_uLn h]
theorem up2_oth {α : Type} {F : Nat → Nat → α} {j k i : Nat} {v : α} (h : i ≠ j) : up2 F j k v i = F i := funext fun b => up2_j h
theorem VW_A {j k q : Nat} {v : Int32} (h : kd j = q) (h1 : 8 ≤ q) (h2 : q < 12) : (VW K ad I G A L).set j (ad j, .inl (ck K q, ln j, .inl (upd (A j) k v))) = VW K ad I G (up2 A j k v) L := by
  refine mp_set (g := cell K ad I G (up2 A j k v) L) ?_ (fun i hi => ?_)
  · rw [cell_a h h1 h2, up2_row]
  · unfold cell; rw [up2_oth hi]
theorem VW_L {j k : Nat} {v : Int64} (h : kd j = 12) : (VW K ad I G A L).set j (ad j, .inl (ck K 12, ln j, .inr (.inl (vp_updL (L j) k v)))) = VW K ad I G A (up2 L j k v) := by
  refine mp_set (g := cell K ad I G A (up2 L j k v)) ?_ (fun i hi => ?_)
  · rw [cell_l h, up2_rowL]
  · unfold cell; rw [up2_oth hi]
/-- the slots are apart, and of a kind -/
def apart (ad : Nat → Nat) (B : Nat → Prop) : Prop := (∀ i j, i < NS → j < NS → ad i = ad j → i = j) ∧ ∀ j, j < NS → B (ad j)
theorem VW_key {i : Nat} {q : Nat × va_E} (h : (VW K ad I G A L)[i]? = some q) : i < NS ∧ q.1 = ad i := by
  unfold VW at h
  rw [List.getElem?_map] at h
  by_cases hl : i < NS
  · rw [List.getElem?_range hl] at h; cases h; exact ⟨hl, rfl⟩
  · rw [List.getElem?_eq_none (by simpa using hl)] at h; cases h
theorem VW_D {B : Nat → Prop} (h : apart ad B) : va_D B (VW K ad I G A L) := by
  refine ⟨fun i j p q hi hj e => ?_, fun k q hk => ?_⟩
  · obtain ⟨a1, a2⟩ := VW_key hi
    obtain ⟨b1, b2⟩ := VW_key hj
    exact h.1 i j a1 b1 (by rw [← a2, ← b2]; exact e)
  · obtain ⟨a1, a2⟩ := VW_key hk
    rw [a2]; exact h.2 k a1
end VMS
