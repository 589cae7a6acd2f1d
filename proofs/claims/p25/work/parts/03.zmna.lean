/-! new T[n][k]: the outer array, then a row and its place, n times over; written here because no round sees a row for it -/
def gd_row (cB : ClassId) (k : Nat) (v : Value) : Cell := { cls := cB, slots := Array.replicate k v, vm := .none }
/-- the outer array with i of its places set -/
def gd_top (cA : ClassId) (n h : Nat) : Nat → Cell
  | 0 => { cls := cA, slots := Array.replicate n .null, vm := .none }
  | i + 1 => (gd_top cA n h i).setSlot i (.ref (h + 1 + i))
/-- the state with i rows made -/
def gd_st (T : State) (cA cB : ClassId) (n k : Nat) (v : Value) : Nat → State
  | 0 => T.pushCell (gd_top cA n T.heap.size 0)
  | i + 1 => ((gd_st T cA cB n k v i).pushCell (gd_row cB k v)).setCell T.heap.size (gd_top cA n T.heap.size (i + 1))
theorem gd_top_f (cA : ClassId) (n h i : Nat) : (gd_top cA n h i).cls = cA ∧ (gd_top cA n h i).vm = .none ∧ (gd_top cA n h i).slots.size = n := by
  induction i with
  | zero => exact ⟨rfl, rfl, by simp [gd_top]⟩
  | succ i ih => exact ⟨by simp [gd_top, Cell.setSlot, ih.1], by simp [gd_top, Cell.setSlot, ih.2.1], by simp [gd_top, Cell.setSlot, ih.2.2]⟩
theorem gd_st_f (T : State) (cA cB : ClassId) (n k : Nat) (v : Value) (i : Nat) : (gd_st T cA cB n k v i).heap.size = T.heap.size + 1 + i ∧ (gd_st T cA cB n k v i).heap[T.heap.size]? = some (gd_top cA n T.heap.size i) ∧ (gd_st T cA cB n k v i).vm = T.vm ∧ (gd_st T cA cB n k v i).slotsUsed = T.slotsUsed + n + i * k := by
  induction i with
  | zero => exact ⟨by simp [gd_st], by simp [gd_st], rfl, by simp [gd_st, gd_top]⟩
  | succ i ih =>
    obtain ⟨a, b, d, u⟩ := ih
    have hlt : T.heap.size < (gd_st T cA cB n k v i).heap.size := by omega
    have hc : ((gd_st T cA cB n k v i).pushCell (gd_row cB k v)).heap[T.heap.size]? = some (gd_top cA n T.heap.size i) := by rw [State.heap_pushCell_of_lt (h := hlt)]; exact b
    refine ⟨?_, State.heap_setCell_self hc, by simp [gd_st, d], ?_⟩
    · simp [gd_st, State.setCell, a]; omega
    · simp [gd_st, u, gd_row, Nat.succ_mul]; omega
theorem gd_st_top (T : State) (f : JFrame) (cA cB : ClassId) (n k : Nat) (v : Value) (i : Nat) : gd_st (T.setTop f) cA cB n k v i = (gd_st T cA cB n k v i).setTop f := by
  induction i with
  | zero => rfl
  | succ i ih => simp only [gd_st, ih, State.heap_setTop, State.pushCell_setTop, State.setCell_setTop]
theorem gd_st_old (T : State) (cA cB : ClassId) (n k : Nat) (v : Value) {a : Nat} (ha : a < T.heap.size) (i : Nat) : (gd_st T cA cB n k v i).heap[a]? = T.heap[a]? := by
  induction i with
  | zero => exact State.heap_pushCell_of_lt _ _ ha
  | succ i ih =>
    have hlt : a < (gd_st T cA cB n k v i).heap.size := by rw [(gd_st_f T cA cB n k v i).1]; omega
    show (((gd_st T cA cB n k v i).pushCell (gd_row cB k v)).setCell T.heap.size _).heap[a]? = _
    rw [State.heap_setCell_other (Nat.ne_of_gt ha), State.heap_pushCell_of_lt (h := hlt)]
    exact ih
section GD
variable {p : Program} {l : Launch} {e : Env} {R : Room} {s : State} {m : MethodId} {args : Array Value} {below : List Frame} {meth : Method} {c : Code} {T : State} {locs : List Loc} {cells slots : Nat}
theorem gd_stand (X : Stand p l e R s m args below meth c T locs cells slots) (cA cB : ClassId) (n k : Nat) (v : Value) (i : Nat) : Stand p l e R s m args below meth c (gd_st T cA cB n k v i) (locs ++ (List.range i).map fun j => ⟨T.heap.size, j⟩) (cells + 1 + i) (slots + n + i * k) := by
  induction i with
  | zero =>
    have h := X.pushed (gd_top cA n T.heap.size 0)
    rw [(gd_top_f cA n T.heap.size 0).2.2] at h
    simpa [gd_st] using h
  | succ i ih =>
    obtain ⟨f1, f2, -, -⟩ := gd_st_f T cA cB n k v i
    have hlt : T.heap.size < (gd_st T cA cB n k v i).heap.size := by rw [f1]; omega
    have hc : ((gd_st T cA cB n k v i).pushCell (gd_row cB k v)).heap[T.heap.size]? = some (gd_top cA n T.heap.size i) := by rw [State.heap_pushCell_of_lt (h := hlt)]; exact f2
    have h := (ih.pushed (gd_row cB k v)).stored hc i (.ref (T.heap.size + 1 + i))
    rw [show (gd_row cB k v).slots.size = k by simp [gd_row]] at h
    rw [show (locs ++ (List.range (i + 1)).map fun j => (⟨T.heap.size, j⟩ : Loc)) = (locs ++ (List.range i).map fun j => (⟨T.heap.size, j⟩ : Loc)) ++ [⟨T.heap.size, i⟩] by simp [List.range_succ, List.append_assoc], show slots + n + (i + 1) * k = slots + n + i * k + k by rw [Nat.succ_mul]; omega]
    exact h
end GD
section GW
variable {E : CtlPost} {e : Env} {d : Bool} {acts : List Action} {s : State}
theorem gd_new {cA comp : ClassId} {kA : Class} {ty : FieldType} {n : Nat} {v : Value} (hk : s.vm.classes[cA]? = some kA) (hkind : kA.kind = .array comp ty) (h1 : ¬ n > e.platform.arrayLengthLimit) (h2 : ¬ n * componentBytes ty > e.platform.maxHeapBytes) (hf : fits ty v = true) (hd : v.isDefault = true) {Q : Addr → Pre}
    (h3 : s.heap.size < e.platform.maxCells) (h4 : s.slotsUsed + n ≤ e.platform.maxSlots) (hq : Q s.heap.size d acts (s.pushCell { cls := cA, slots := Array.replicate n v, vm := .none })) : wp (Jvm.newArray cA n v) Q E e d acts s := by
  have hfits : ∀ i x, (Array.replicate n v)[i]? = some x → s.fitsSlot cA .none i x = true := by
    intro i x hx
    rw [Array.getElem?_replicate] at hx
    split at hx
    · cases hx; simp [State.fitsSlot, State.slotType?, hk, hkind, hf]
    · cases hx
  have hda : allocActs (Array.replicate n v) s.heap.size acts = acts := by
    have hall : ((Array.replicate n v).all (·.isDefault)) = true := by
      rw [Array.all_replicate]; split <;> simp [hd]
    unfold allocActs; rw [if_pos hall]
  simp only [Jvm.newArray, Jvm.arrayFits, wp_bind', Jvm.W.ask, Jvm.W.ite, h1, if_false, wp_pure', Jvm.W.theClass, hk, hkind, h2, Jvm.W.alloc, Jvm.W.stop, Option.some.injEq, exists_eq_left', Array.size_replicate, hda]
  rw [if_neg (by omega)]
  exact ⟨h3, h4, hfits, hq⟩
end GW
