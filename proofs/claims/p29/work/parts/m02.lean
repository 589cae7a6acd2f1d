/-! part 03.pre -/
/-! what the tables say of nest mates and of arrays of references, and that it stays; empty worlds; switches -/
def nwX (U : State) : Prop := va_Nw (.methodLinkNest RX6 21 yX4_init "CrateHelpers") U ∧ va_Nw (.methodLinkNest RX6 47 yX0_init "CrateHelpers") U ∧ va_Nw (.methodLinkNest RX1 46 yX2_init "CrateHelpers") U ∧ va_Nw (.methodLinkNest RX5 30 yX0_init "CrateHelpers") U ∧ va_AO RX1 U ∧ va_AO RX2 U ∧ va_AOA .int U
theorem nwX_moved {s U : State} (hW : s.WarmedH U.vm) (h : nwX s) : nwX U := ⟨va_Nw.warmM hW h.1, va_Nw.warmM hW h.2.1, va_Nw.warmM hW h.2.2.1, va_Nw.warmM hW h.2.2.2.1, va_AO.moved hW.alike h.2.2.2.2.1, va_AO.moved hW.alike h.2.2.2.2.2.1, zg_moved hW.alike h.2.2.2.2.2.2⟩
theorem nwX_same {u U : State} (e : u.vm = U.vm) (h : nwX u) : nwX U := ⟨va_Nw.same rfl e h.1, va_Nw.same rfl e h.2.1, va_Nw.same rfl e h.2.2.1, va_Nw.same rfl e h.2.2.2.1, va_AO.moved (by rw [e]; exact Vm.Alike.refl U.vm) h.2.2.2.2.1, va_AO.moved (by rw [e]; exact Vm.Alike.refl U.vm) h.2.2.2.2.2.1, zg_moved (by rw [e]; exact Vm.Alike.refl U.vm) h.2.2.2.2.2.2⟩
theorem va_Pnil (D : va_G) (cl : List vw_C) (H : Heap) : va_P D cl [] H := fun k q h => by simp at h
theorem va_Dnil (A : Nat → Prop) : va_D A [] := ⟨fun i j p q h => by simp at h, fun k q h => by simp at h⟩
theorem sw_k (x k : Int32) : x = k ∨ x.toInt ≠ k.toInt := by
  by_cases h : x = k
  · exact Or.inl h
  · exact Or.inr (fun e => h (Int32.toInt_inj.mp e))
theorem sw_2 (x : Int32) : x = 0 ∨ x = 1 ∨ x = 2 ∨ (x.toInt < 0 ∨ 2 < x.toInt) := by
  rcases sw_k x 0 with h | h0
  · exact Or.inl h
  rcases sw_k x 1 with h | h1
  · exact Or.inr (Or.inl h)
  rcases sw_k x 2 with h | h2
  · exact Or.inr (Or.inr (Or.inl h))
  have e0 : (0 : Int32).toInt = 0 := by decide
  have e1 : (1 : Int32).toInt = 1 := by decide
  have e2 : (2 : Int32).toInt = 2 := by decide
  refine Or.inr (Or.inr (Or.inr ?_))
  omega
theorem sw_7 (x : Int32) : x = 0 ∨ x = 1 ∨ x = 2 ∨ x = 3 ∨ x = 4 ∨ x = 5 ∨ x = 6 ∨ x = 7 ∨ (x.toInt < 0 ∨ 7 < x.toInt) := by
  rcases sw_k x 0 with h | h0
  · exact Or.inl h
  rcases sw_k x 1 with h | h1
  · exact Or.inr (Or.inl h)
  rcases sw_k x 2 with h | h2
  · exact Or.inr (Or.inr (Or.inl h))
  rcases sw_k x 3 with h | h3
  · exact Or.inr (Or.inr (Or.inr (Or.inl h)))
  rcases sw_k x 4 with h | h4
  · exact Or.inr (Or.inr (Or.inr (Or.inr (Or.inl h))))
  rcases sw_k x 5 with h | h5
  · exact Or.inr (Or.inr (Or.inr (Or.inr (Or.inr (Or.inl h)))))
  rcases sw_k x 6 with h | h6
  · exact Or.inr (Or.inr (Or.inr (Or.inr (Or.inr (Or.inr (Or.inl h))))))
  rcases sw_k x 7 with h | h7
  · exact Or.inr (Or.inr (Or.inr (Or.inr (Or.inr (Or.inr (Or.inr (Or.inl h)))))))
  have e0 : (0 : Int32).toInt = 0 := by decide
  have e1 : (1 : Int32).toInt = 1 := by decide
  have e2 : (2 : Int32).toInt = 2 := by decide
  have e3 : (3 : Int32).toInt = 3 := by decide
  have e4 : (4 : Int32).toInt = 4 := by decide
  have e5 : (5 : Int32).toInt = 5 := by decide
  have e6 : (6 : Int32).toInt = 6 := by decide
  have e7 : (7 : Int32).toInt = 7 := by decide
  refine Or.inr (Or.inr (Or.inr (Or.inr (Or.inr (Or.inr (Or.inr (Or.inr ?_)))))))
  omega

/-! part 03.zgood -/
/-! words among words, by runs of places -/
theorem goodIn_g {big : List Cond} (ws : List Cond) (sg : List (Nat × Nat)) (hp : ws = sg.flatMap (fun q => (big.drop q.1).take q.2)) (h : ws.all goodWord = true) : GoodIn big ws := by
  intro w hw
  refine ⟨?_, good_of_word (List.all_eq_true.mp h w hw)⟩
  rw [hp] at hw
  obtain ⟨q, -, hq⟩ := List.mem_flatMap.mp hw
  exact List.mem_of_mem_drop (List.mem_of_mem_take hq)
theorem in_seg {big : List Cond} (ws : List Cond) (sg : List (Nat × Nat)) (hp : ws = sg.flatMap (fun q => (big.drop q.1).take q.2)) : ∀ w ∈ ws, w ∈ big := by
  intro w hw
  rw [hp] at hw
  obtain ⟨q, -, hq⟩ := List.mem_flatMap.mp hw
  exact List.mem_of_mem_drop (List.mem_of_mem_take hq)
theorem goodIn_e {big big' ws : List Cond} (e : big = big') (h : GoodIn big' ws) : GoodIn big ws := e ▸ h

/-! part 03.zmna -/
/-! new T[n][k]: the outer array, then a row and its place, n times over; written here because no round sees a row for it -/
def gd_row (cB : ClassId) (k : Nat) (v : Value) : Cell := { cls := cB, slots := Array.replicate k v, vm := .none }
/-- the outer array with i of its places set -/
def gd_top (cA : ClassId) (n h : Nat) : Nat → Cell
  | 0 => { cls := cA, slots := Array.replicate n .null, vm := .none }
  | i + 1 => (gd_top cA n h i).setSlot i (.ref (h + 1 + i))
/-- the state with i rows made -/
def gd_st (T : State) (cA cB : ClassId) (n k : Nat) (v : Value) : Nat → State
  | 0 => T.pushCell (gd_top cA n T.heap.size 0)
  | i + 1 => ((gd_st T cA cB n k v i).pushCell (gd_row cB k v)).setCell T.heap.size (gd_top cA n T.heap.size (i + 1))
theorem gd_top_f (cA : ClassId) (n h i : Nat) : (gd_top cA n h i).cls = cA ∧ (gd_top cA n h i).vm = .none ∧ (gd_top cA n h i).slots.size = n := by
  induction i with
  | zero => exact ⟨rfl, rfl, by simp [gd_top]⟩
  | succ i ih => exact ⟨by simp [gd_top, Cell.setSlot, ih.1], by simp [gd_top, Cell.setSlot, ih.2.1], by simp [gd_top, Cell.setSlot, ih.2.2]⟩
theorem gd_st_f (T : State) (cA cB : ClassId) (n k : Nat) (v : Value) (i : Nat) : (gd_st T cA cB n k v i).heap.size = T.heap.size + 1 + i ∧ (gd_st T cA cB n k v i).heap[T.heap.size]? = some (gd_top cA n T.heap.size i) ∧ (gd_st T cA cB n k v i).vm = T.vm ∧ (gd_st T cA cB n k v i).slotsUsed = T.slotsUsed + n + i * k := by
  induction i with
  | zero => exact ⟨by simp [gd_st], by simp [gd_st], rfl, by simp [gd_st, gd_top]⟩
  | succ i ih =>
    obtain ⟨a, b, d, u⟩ := ih
    have hlt : T.heap.size < (gd_st T cA cB n k v i).heap.size := by omega
    have hc : ((gd_st T cA cB n k v i).pushCell (gd_row cB k v)).heap[T.heap.size]? = some (gd_top cA n T.heap.size i) := by rw [State.heap_pushCell_of_lt (h := hlt)]; exact b
    refine ⟨?_, State.heap_setCell_self hc, by simp [gd_st, d], ?_⟩
    · simp [gd_st, State.setCell, a]; omega
    · simp [gd_st, u, gd_row, Nat.succ_mul]; omega
theorem gd_st_top (T : State) (f : JFrame) (cA cB : ClassId) (n k : Nat) (v : Value) (i : Nat) : gd_st (T.setTop f) cA cB n k v i = (gd_st T cA cB n k v i).setTop f := by
  induction i with
  | zero => rfl
  | succ i ih => simp only [gd_st, ih, State.heap_setTop, State.pushCell_setTop, State.setCell_setTop]
theorem gd_st_old (T : State) (cA cB : ClassId) (n k : Nat) (v : Value) {a : Nat} (ha : a < T.heap.size) (i : Nat) : (gd_st T cA cB n k v i).heap[a]? = T.heap[a]? := by
  induction i with
  | zero => exact State.heap_pushCell_of_lt _ _ ha
  | succ i ih =>
    have hlt : a < (gd_st T cA cB n k v i).heap.size := by rw [(gd_st_f T cA cB n k v i).1]; omega
    show (((gd_st T cA cB n k v i).pushCell (gd_row cB k v)).setCell T.heap.size _).heap[a]? = _
    rw [State.heap_setCell_other (Nat.ne_of_gt ha), State.heap_pushCell_of_lt (h := hlt)]
    exact ih
section GD
variable {p : Program} {l : Launch} {e : Env} {R : Room} {s : State} {m : MethodId} {args : Array Value} {below : List Frame} {meth : Method} {c : Code} {T : State} {locs : List Loc} {cells slots : Nat}
theorem gd_stand (X : Stand p l e R s m args below meth c T locs cells slots) (cA cB : ClassId) (n k : Nat) (v : Value) (i : Nat) : Stand p l e R s m args below meth c (gd_st T cA cB n k v i) (locs ++ (List.range i).map fun j => ⟨T.heap.size, j⟩) (cells + 1 + i) (slots + n + i * k) := by
  induction i with
  | zero =>
    have h := X.pushed (gd_top cA n T.heap.size 0)
    rw [(gd_top_f cA n T.heap.size 0).2.2] at h
    simpa [gd_st] using h
  | succ i ih =>
    obtain ⟨f1, f2, -, -⟩ := gd_st_f T cA cB n k v i
    have hlt : T.heap.size < (gd_st T cA cB n k v i).heap.size := by rw [f1]; omega
    have hc : ((gd_st T cA cB n k v i).pushCell (gd_row cB k v)).heap[T.heap.size]? = some (gd_top cA n T.heap.size i) := by rw [State.heap_pushCell_of_lt (h := hlt)]; exact f2
    have h := (ih.pushed (gd_row cB k v)).stored hc i (.ref (T.heap.size + 1 + i))
    rw [show (gd_row cB k v).slots.size = k by simp [gd_row]] at h
    rw [show (locs ++ (List.range (i + 1)).map fun j => (⟨T.heap.size, j⟩ : Loc)) = (locs ++ (List.range i).map fun j => (⟨T.heap.size, j⟩ : Loc)) ++ [⟨T.heap.size, i⟩] by simp [List.range_succ, List.append_assoc], show slots + n + (i + 1) * k = slots + n + i * k + k by rw [Nat.succ_mul]; omega]
    exact h
end GD
section GW
variable {E : CtlPost} {e : Env} {d : Bool} {acts : List Action} {s : State}
theorem gd_new {cA comp : ClassId} {kA : Class} {ty : FieldType} {n : Nat} {v : Value} (hk : s.vm.classes[cA]? = some kA) (hkind : kA.kind = .array comp ty) (h1 : ¬ n > e.platform.arrayLengthLimit) (h2 : ¬ n * componentBytes ty > e.platform.maxHeapBytes) (hf : fits ty v = true) (hd : v.isDefault = true) {Q : Addr → Pre}
    (h3 : s.heap.size < e.platform.maxCells) (h4 : s.slotsUsed + n ≤ e.platform.maxSlots) (hq : Q s.heap.size d acts (s.pushCell { cls := cA, slots := Array.replicate n v, vm := .none })) : wp (Jvm.newArray cA n v) Q E e d acts s := by
  have hfits : ∀ i x, (Array.replicate n v)[i]? = some x → s.fitsSlot cA .none i x = true := by
    intro i x hx
    rw [Array.getElem?_replicate] at hx
    split at hx
    · cases hx; simp [State.fitsSlot, State.slotType?, hk, hkind, hf]
    · cases hx
  have hda : allocActs (Array.replicate n v) s.heap.size acts = acts := by
    have hall : ((Array.replicate n v).all (·.isDefault)) = true := by
      rw [Array.all_replicate]; split <;> simp [hd]
    unfold allocActs; rw [if_pos hall]
  simp only [Jvm.newArray, Jvm.arrayFits, wp_bind', Jvm.W.ask, Jvm.W.ite, h1, if_false, wp_pure', Jvm.W.theClass, hk, hkind, h2, Jvm.W.alloc, Jvm.W.stop, Option.some.injEq, exists_eq_left', Array.size_replicate, hda]
  rw [if_neg (by omega)]
  exact ⟨h3, h4, hfits, hq⟩
end GW

/-! part 03.zmnb -/
section GW2
variable {E : CtlPost} {e : Env} {d : Bool} {acts : List Action} {s : State}
theorem gd_fitR {t : FieldType} (h : t.isReference = true) (v : Value) (hv : v = .null ∨ ∃ a, v = .ref a) : fits t v = true := by
  rcases hv with rfl | ⟨a, rfl⟩ <;> cases t <;> simp [FieldType.isReference] at h <;> rfl
/-- a row: the last dimension -/
theorem gd_make1 {cB cC : ClassId} {kB : Class} {ty : FieldType} {k : Int32} (hkB : s.vm.classes[cB]? = some kB) (hB : kB.kind = .array cC ty) (hk : ¬ k < 0) (h1 : ¬ k.toNatClampNeg > e.platform.arrayLengthLimit) (h2 : ¬ k.toNatClampNeg * componentBytes ty > e.platform.maxHeapBytes)
    (hf : fits ty (defaultValue ty) = true) (hd : (defaultValue ty).isDefault = true) (h3 : s.heap.size < e.platform.maxCells) (h4 : s.slotsUsed + k.toNatClampNeg ≤ e.platform.maxSlots) {Q : Addr → Pre} (hq : Q s.heap.size d acts (s.pushCell (gd_row cB k.toNatClampNeg (defaultValue ty)))) : wp (Jvm.Op.multianewarray.make cB [k]) Q E e d acts s := by
  rw [Jvm.Op.multianewarray.make]
  simp only [wp_bind', Jvm.W.ite, hk, if_false, wp_pure', Jvm.W.theClass, hkB, hB, Option.some.injEq, exists_eq_left']
  exact gd_new hkB hB h1 h2 hf hd h3 h4 hq
/-- the whole grid -/
theorem gd_make2 {cA cB cC : ClassId} {kA kB : Class} {t0 ty : FieldType} {n k : Int32} (hkA : s.vm.classes[cA]? = some kA) (hA : kA.kind = .array cB t0) (hR : t0.isReference = true) (hkB : s.vm.classes[cB]? = some kB) (hB : kB.kind = .array cC ty) (hn : ¬ n < 0) (hk : ¬ k < 0)
    (h1 : ¬ n.toNatClampNeg > e.platform.arrayLengthLimit) (h2 : ¬ n.toNatClampNeg * componentBytes t0 > e.platform.maxHeapBytes) (h3 : ¬ k.toNatClampNeg > e.platform.arrayLengthLimit) (h4 : ¬ k.toNatClampNeg * componentBytes ty > e.platform.maxHeapBytes) (hf : fits ty (defaultValue ty) = true) (hd : (defaultValue ty).isDefault = true)
    (h5 : s.heap.size + 1 + n.toNatClampNeg ≤ e.platform.maxCells) (h6 : s.slotsUsed + n.toNatClampNeg + n.toNatClampNeg * k.toNatClampNeg ≤ e.platform.maxSlots) {Q : Addr → Pre} (hq : ∀ d' acts', Q s.heap.size d' acts' (gd_st s cA cB n.toNatClampNeg k.toNatClampNeg (defaultValue ty) n.toNatClampNeg)) : wp (Jvm.Op.multianewarray.make cA [n, k]) Q E e d acts s := by
  have hno : ([k].find? (· < 0)) = none := by simp [hk]
  have hmul0 := Nat.zero_le (n.toNatClampNeg * k.toNatClampNeg)
  rw [Jvm.Op.multianewarray.make]
  simp only [wp_bind', Jvm.W.ite, hn, if_false, wp_pure', Jvm.W.theClass, hkA, hA, Option.some.injEq, exists_eq_left']
  refine gd_new hkA hA h1 h2 (gd_fitR hR _ (Or.inl rfl)) rfl (by omega) (by omega) ?_
  simp only [hno]
  rw [ite_self, wp_bind', Std.Legacy.Range.forIn_eq_forIn_range']
  rw [show ([:n.toNatClampNeg] : Std.Legacy.Range).size = n.toNatClampNeg by simp [Std.Legacy.Range.size]]
  show wp (forIn (List.range' 0 n.toNatClampNeg 1) PUnit.unit _) _ E e d acts _
  refine wp_forIn_inv (fun rest S => ∃ i, i ≤ n.toNatClampNeg ∧ rest = List.range' i (n.toNatClampNeg - i) ∧ S = gd_st s cA cB n.toNatClampNeg k.toNatClampNeg (defaultValue ty) i) _ _ ⟨0, Nat.zero_le _, rfl, rfl⟩ ?_ ?_
  · rintro x rest S d' acts' Q' ⟨i, hi, hl, rfl⟩ hnext
    have hlt : i < n.toNatClampNeg := by
      rcases Nat.lt_or_ge i n.toNatClampNeg with h | h
      · exact h
      · rw [show n.toNatClampNeg - i = 0 by omega] at hl; simp at hl
    obtain ⟨rfl, hrest⟩ : x = i ∧ rest = List.range' (i + 1) (n.toNatClampNeg - (i + 1)) := by
      rw [show n.toNatClampNeg - i = (n.toNatClampNeg - (i + 1)) + 1 by omega, List.range'_succ] at hl
      exact ⟨(List.cons.inj hl).1, (List.cons.inj hl).2⟩
    obtain ⟨f1, f2, f3, f4⟩ := gd_st_f s cA cB n.toNatClampNeg k.toNatClampNeg (defaultValue ty) x
    obtain ⟨o1, o2, o3⟩ := gd_top_f cA n.toNatClampNeg s.heap.size x
    have hmul : x * k.toNatClampNeg + k.toNatClampNeg ≤ n.toNatClampNeg * k.toNatClampNeg := by
      have := Nat.mul_le_mul_right k.toNatClampNeg (show x + 1 ≤ n.toNatClampNeg from hlt)
      rw [Nat.succ_mul] at this; exact this
    simp only [wp_bind']
    refine gd_make1 (by rw [f3]; exact hkB) hB hk h3 h4 hf hd (by rw [f1]; omega) (by rw [f4]; omega) ?_
    have hlt0 : s.heap.size < (gd_st s cA cB n.toNatClampNeg k.toNatClampNeg (defaultValue ty) x).heap.size := by rw [f1]; omega
    simp only [wp_bind', Jvm.W.writeLoc, wp_pure']
    refine ⟨gd_top cA n.toNatClampNeg s.heap.size x, by rw [State.heap_pushCell_of_lt (h := hlt0)]; exact f2, by rw [o2]; simp, by rw [o3]; exact hlt, ?_, hnext _ _ _ ⟨x + 1, hlt, hrest, ?_⟩⟩
    · rw [o1, o2]
      simp [State.fitsSlot, State.slotType?, f3, hkA, hA, gd_fitR hR _ (Or.inr ⟨_, rfl⟩)]
    · rw [f1]; rfl
  · rintro S d' acts' ⟨i, hi, hl, rfl⟩
    have hiN : i = n.toNatClampNeg := by
      rcases Nat.lt_or_ge i n.toNatClampNeg with h | h
      · rw [show n.toNatClampNeg - i = (n.toNatClampNeg - (i + 1)) + 1 by omega, List.range'_succ] at hl; cases hl
      · omega
    subst hiN
    simp only [wp_pure']
    exact hq _ _
end GW2
section GS
variable {p : Program} {l : Launch} {e : Env} {R : Room} {s : State} {m : MethodId} {args : Array Value} {below : List Frame} {meth : Method} {c : Code} {T : State} {locs : List Loc} {cells slots : Nat}
theorem gd_step (X : Stand p l e R s m args below meth c T locs cells slots) (hexec : p.tables.exec = Jvm.exec) {own : String} {index : Nat} {ty : FieldType} (hown : s.vm.findClass own = some m.cls) (hclink : (Cond.classLink own index ("[" ++ (FieldType.array ty).toString)).before args s = true) (hover : (Cond.arrayOver (.array ty)).before args s = true) (harr : (Cond.arrayClass ty).before args s = true)
    {g : JFrame} (hg : g.method = m) (hdg : decode c.code g.pc = .ok (.multianewarray index 2, 4)) {n k : Int32} {rest : List Value} (hstack : g.stack = .int k :: .int n :: rest) (hn : ¬ n < 0) (hk : ¬ k < 0) (hb1 : n.toNatClampNeg * 4 ≤ 536870912) (hb2 : k.toNatClampNeg * componentBytes ty ≤ 536870912) (hb3 : k.toNatClampNeg ≤ 536870912)
    (hdf : fits ty (defaultValue ty) = true) (hdd : (defaultValue ty).isDefault = true) (hcells : cells + (1 + n.toNatClampNeg) ≤ R.cells) (hslots : slots + (n.toNatClampNeg + n.toNatClampNeg * k.toNatClampNeg) ≤ R.slots) :
    ∃ (vm1 : Vm) (cA cB : ClassId), s.vm.findClass ("[" ++ (FieldType.array ty).toString) = some cA ∧ s.vm.findClass (FieldType.array ty).toString = some cB ∧
      Stand p l e R s m args below meth c (gd_st (T.setVm vm1) cA cB n.toNatClampNeg k.toNatClampNeg (defaultValue ty) n.toNatClampNeg) locs (cells + 1 + n.toNatClampNeg) (slots + n.toNatClampNeg + n.toNatClampNeg * k.toNatClampNeg) ∧
      ∀ target, Steps p.tables e below ((gd_st (T.setVm vm1) cA cB n.toNatClampNeg k.toNatClampNeg (defaultValue ty) n.toNatClampNeg).setTop { g with pc := g.pc + 4, stack := .ref T.heap.size :: rest }) target → Steps p.tables e below (T.setTop g) target := by
  subst hg
  have hpl : e.platform.magicAccessors = ({} : Platform).magicAccessors := by rw [X.admits.platform]
  obtain ⟨cB, cA, kA, hcB, -, hkA, hkindA, hnameA⟩ := zg_spec hover
  obtain ⟨cB', kB, cC, hcB', hkB, hkindB⟩ := Cond.arrayClass_spec harr
  obtain rfl : cB' = cB := Option.some.inj (hcB'.symm.trans hcB)
  obtain ⟨c0, hfc0, hcl⟩ := Cond.classLink_spec hown hclink e.platform hpl
  cases hnameA.symm.trans hfc0
  obtain ⟨hg1, hwarm, hready⟩ := State.classEntry (e := e) X.warmed hcl
  generalize T.vm.noted g.method.cls index (.cls cA) = vm1 at hg1 hwarm hready
  have hal : s.vm.Alike vm1 := hwarm.alike
  obtain ⟨kA1, hkA1, heA⟩ := hal.2.2 _ _ hkA
  obtain ⟨kB1, hkB1, heB⟩ := hal.2.2 _ _ hkB
  have hkindA1 : kA1.kind = .array cB' (.array ty) := by rw [heA]; exact hkindA
  have hkindB1 : kB1.kind = .array cC ty := by rw [heB]; exact hkindB
  have X1 := X.noted hwarm
  obtain ⟨hr1, hr2⟩ := X.roomAbove hcells hslots
  have XF := gd_stand X1 cA cB' n.toNatClampNeg k.toNatClampNeg (defaultValue ty) n.toNatClampNeg
  refine ⟨vm1, cA, cB', hnameA, hcB, XF.dropFresh (fun x hx => ?_), fun target hrest => ?_⟩
  · obtain ⟨j, -, rfl⟩ := List.mem_map.mp hx
    exact X.heapGrown
  have hl1 : ¬ n.toNatClampNeg > e.platform.arrayLengthLimit := by rw [Launch.admits_arrayLengthLimit X.admits]; omega
  have hh1 : ¬ n.toNatClampNeg * componentBytes (.array ty) > e.platform.maxHeapBytes := by
    rw [Launch.admits_maxHeapBytes X.admits]; show ¬ n.toNatClampNeg * 4 > 536870912; omega
  have hl2 : ¬ k.toNatClampNeg > e.platform.arrayLengthLimit := by rw [Launch.admits_arrayLengthLimit X.admits]; omega
  have hh2 : ¬ k.toNatClampNeg * componentBytes ty > e.platform.maxHeapBytes := by rw [Launch.admits_maxHeapBytes X.admits]; omega
  jvm_step X.here [hexec, hdg]
  simp only [Jvm.Op.multianewarray.sem, wp_bind', Jvm.W.resolveClassAt_links (State.method?_setTop g X.here.top) hg1]
  rw [Jvm.W.popN, if_neg (by decide)]
  refine ⟨g, State.topJava?_setTop' (s := T.setVm vm1) g X.here.top, [.int n, .int k], rest, rfl, hstack, ?_⟩
  simp only [List.mapM_cons, List.mapM_nil, wp_bind', wp_pure']
  refine gd_make2 (kA := kA1) (kB := kB1) (cB := cB') (cC := cC) (t0 := .array ty) (ty := ty) hkA1 hkindA1 rfl hkB1 hkindB1 hn hk hl1 hh1 hl2 hh2 hdf hdd (by show T.heap.size + 1 + _ ≤ _; omega) (by show T.slotsUsed + _ + _ ≤ _; omega) (fun d' acts' => ?_)
  have eS : ((T.setTop g).setVm vm1).setTop { g with stack := rest } = (T.setVm vm1).setTop { g with stack := rest } := by
    show ((T.setVm vm1).setTop g).setTop _ = _
    rw [State.setTop_setTop]
  rw [eS, gd_st_top]
  simp only [wp_bind', Jvm.W.mark, Jvm.W.pushRef, State.topJava?_setTop' _ XF.here.top, Option.some.injEq, exists_eq_left', State.setTop_setTop, State.heap_setTop]
  intro acts
  simp [jvm, XF.here.top]
  exact hrest
end GS
section GR
variable {p : Program} {l : Launch} {e : Env} {R : Room} {s : State} {m : MethodId} {args : Array Value} {below : List Frame} {meth : Method} {c : Code} {H : Heap} {locs : List Loc} {cells slots : Nat} {Q : State → Prop}
variable {cc : ByteArray} {pc : Nat} {ls : Array Slot} {rest : List Value} {D : va_G} {cl : List vw_C} {A : Nat → Prop} {ws : va_W} {H0 : Heap}
/-- new T[n][k] of which only the place is told -/
theorem mn_row (hexec : p.tables.exec = Jvm.exec) (hb : c.code = cc) {own : String} {index : Nat} {ty : FieldType} (hown : s.vm.findClass own = some m.cls) (hclink : (Cond.classLink own index ("[" ++ (FieldType.array ty).toString)).before args s = true) (hover : va_AOA ty s) (harr : (Cond.arrayClass ty).before args s = true)
    (hP : va_P D cl ws H) (hD : va_D A ws) (hS : va_S A H0 H locs) (hA : ∀ q, H0.size ≤ q → A q) {n k : Int32} (hn : ¬ n < 0) (hk : ¬ k < 0) (hb1 : n.toNatClampNeg * 4 ≤ 536870912) (hb2 : k.toNatClampNeg * componentBytes ty ≤ 536870912) (hb3 : k.toNatClampNeg ≤ 536870912)
    (hdf : fits ty (defaultValue ty) = true) (hdd : (defaultValue ty).isDefault = true) (hcells : cells + (1 + n.toNatClampNeg) ≤ R.cells) (hslots : slots + (n.toNatClampNeg + n.toNatClampNeg * k.toNatClampNeg) ≤ R.slots) (hdg : decode cc pc = .ok (.multianewarray index 2, 4))
    (kk : ∀ (q : Nat) (H1 : Heap), va_P D cl ws H1 → va_D A ws → va_S A H0 H1 locs → W p l e R s m args below meth c H1 locs (cells + 1 + n.toNatClampNeg) (slots + n.toNatClampNeg + n.toNatClampNeg * k.toNatClampNeg) Q (F0 m (pc + 4) ls (.ref q :: rest))) : W p l e R s m args below meth c H locs cells slots Q (F0 m pc ls (.int k :: .int n :: rest)) := by
  intro T hT X
  obtain ⟨vm1, cA, cB, -, -, X', step⟩ := gd_step X hexec hown hclink (va_AOA.use hover) harr (g := F0 m pc ls (.int k :: .int n :: rest)) rfl (by rw [hb]; exact hdg) rfl hn hk hb1 hb2 hb3 hdf hdd hcells hslots
  have hTh : (T.setVm vm1).heap = H := hT
  have f1 := (gd_st_f (T.setVm vm1) cA cB n.toNatClampNeg k.toNatClampNeg (defaultValue ty) n.toNatClampNeg).1
  have hold : ∀ x : Nat, x < H.size → (gd_st (T.setVm vm1) cA cB n.toNatClampNeg k.toNatClampNeg (defaultValue ty) n.toNatClampNeg).heap[x]? = H[x]? := fun x hx => by
    have := gd_st_old (T.setVm vm1) cA cB n.toNatClampNeg k.toNatClampNeg (defaultValue ty) (a := x) (by rw [hTh]; exact hx) n.toNatClampNeg
    rw [hTh] at this
    exact this
  rw [hTh] at f1
  obtain ⟨t, a1, b1⟩ := kk T.heap.size _ (hP.kept (fun k9 x hx => hold x.1 ((hP k9 x hx).lt))) hD ⟨by rw [f1]; have := hS.1; omega, fun q h1 h2 => by rw [hold q (Nat.lt_of_lt_of_le h1 hS.1)]; exact hS.2.1 q h1 h2, hS.2.2⟩ _ rfl X'
  exact ⟨t, step t a1, b1⟩
end GR

/-! part 20.vm -/
/-! THE MEMORY. Behind the two constructors nothing is made any more: the class's 318 cells and the reference's are slots 0 .. NS-1, at the addresses ad 0 ..; what they hold is four functions: I (int and boolean fields, by slot and field), G (the few references that change: the slot they point to), A (int, byte, short, boolean arrays), L (long arrays). -/
def up2 {α : Type} (F : Nat → Nat → α) (j k : Nat) (v : α) : Nat → Nat → α := fun a b => if a = j ∧ b = k then v else F a b
theorem up2_s {α : Type} (F : Nat → Nat → α) (j k : Nat) (v : α) : up2 F j k v j k = v := by simp [up2]
theorem up2_j {α : Type} {F : Nat → Nat → α} {j k a b : Nat} {v : α} (h : a ≠ j) : up2 F j k v a b = F a b := by simp [up2, h]
theorem up2_k {α : Type} {F : Nat → Nat → α} {j k a b : Nat} {v : α} (h : b ≠ k) : up2 F j k v a b = F a b := by simp [up2, h]
-- kinds: 0 .. 7 the classes of vwCl; 8 int[], 9 byte[], 10 short[], 11 boolean[], 12 long[], 13 Problem[], 14 Rule[], 15 int[][]
/-- the slots of a tree, by their distance from its object -/
def kdT (o : Nat) : Nat := [5, 12, 9, 9, 9, 9, 9, 10, 11, 8, 8, 0].getD o 99
/-- the slots of a problem: object, sizes, kinds, prices, its six rows, rules, outcome, then five for each rule: object, variables, weights, isPart, weightOf -/
def kdP (o : Nat) : Nat := if o < 12 then [1, 8, 8, 15, 8, 8, 8, 8, 8, 8, 14, 8].getD o 99 else [2, 8, 8, 11, 8].getD ((o - 12) % 5) 99
/-- the reference's arrays, in the order of its fields -/
def kdM (o : Nat) : Nat := if o = 0 then 7 else if o ∈ [26, 27, 33, 34, 54, 55] then 11 else 8
def kd (j : Nat) : Nat := if j < 22 then [6, 13, 4, 8, 8, 8, 8, 8, 4, 8, 8, 8, 8, 8, 3, 8, 8, 0, 8, 8, 8, 8].getD j 99 else if j < 58 then kdT ((j - 22) % 12) else if j < 318 then kdP ((j - 58) % 52) else kdM (j - 318)
abbrev NS : Nat := 378
/-- the places of an array -/
def ln (j : Nat) : Nat := if j < 22 then [0, 5, 0, 5, 200, 5, 5, 5, 0, 5, 200, 5, 5, 5, 0, 5, 5, 0, 6, 6, 12, 12].getD j 0 else if j < 58 then (if (j - 22) % 12 = 9 then 250 else if (j - 22) % 12 = 10 then 6 else if j < 46 then 1711 else 1501) else if j < 318 then (if (j - 58) % 52 = 10 then 8 else if (j - 58) % 52 = 11 then 12 else 6) else [0, 5, 5, 30, 30, 180, 40, 40, 40, 240, 240, 5, 5, 200, 5, 5, 5, 5, 5, 5, 2000, 12000, 2000, 2000, 2000, 2000, 2000, 2000, 250, 12000, 12000, 2000, 30, 5, 5, 30, 250, 1500, 250, 250, 250, 250, 1500, 1500, 6, 6, 6, 3, 2000, 12000, 2000, 2000, 2000, 2000, 2000, 2000, 250, 12000, 12000, 2000].getD (j - 318) 0
/-- what a field is: 0 a number, 1 a slot at a distance from its object, 2 a slot by its number, 3 a slot that changes -/
def rk (ci k : Nat) : Nat := if ci = 1 then (if k < 4 then 0 else 1) else if ci = 2 then (if k < 3 then 0 else 1) else if ci = 3 then [3, 3, 0, 0, 1, 1].getD k 0 else if ci = 4 then (if k < 2 then 0 else 1) else if ci = 5 then (if k < 9 then 1 else if k < 12 then 0 else if k < 14 then 1 else if k = 14 then 3 else 0) else if ci = 6 then [2, 0, 2, 0, 2, 0, 3, 0, 0, 0, 2, 2, 2, 2, 2, 2, 2, 0].getD k 0 else if ci = 7 then [0, 0, 0, 2, 2, 2, 2, 2, 2, 2, 2, 2, 2, 2, 0, 0, 2, 2, 0, 0, 2, 2, 2, 0, 0, 2, 2, 2, 0, 0, 0, 0, 2, 2, 2, 2, 2, 2, 2, 2, 2, 2, 2, 2, 2, 2, 2, 2, 0, 2, 2, 2, 2, 2, 2, 2, 2, 0, 0, 0, 2, 0, 2, 2, 0, 0, 2, 2, 2, 2, 2, 2, 2, 2, 2, 2, 2, 2, 2].getD k 0 else 0
def of (ci k : Nat) : Nat := if ci = 1 then [0, 0, 0, 0, 1, 2, 3, 10, 11].getD k 0 else if ci = 2 then k - 2 else if ci = 3 then k - 3 else if ci = 4 then k - 1 else if ci = 5 then (if k < 9 then k + 1 else k - 2) else if ci = 6 then [1, 0, 2, 0, 14, 0, 0, 0, 0, 0, 18, 17, 46, 19, 8, 20, 21, 0].getD k 0 else if ci = 7 then [0, 0, 0, 319, 320, 321, 322, 323, 324, 325, 326, 327, 328, 329, 0, 0, 330, 331, 0, 0, 332, 333, 334, 0, 0, 335, 336, 337, 0, 0, 0, 0, 338, 339, 340, 341, 342, 343, 344, 345, 346, 347, 348, 349, 350, 351, 352, 353, 0, 354, 355, 356, 357, 358, 359, 360, 361, 0, 0, 0, 362, 0, 363, 364, 0, 0, 365, 366, 367, 368, 369, 370, 371, 372, 373, 374, 375, 376, 377].getD k 0 else 0
def nf (ci : Nat) : Nat := [3, 9, 7, 6, 7, 16, 18, 79].getD ci 0
def fd (ad : Nat → Nat) (I : Nat → Nat → Int32) (G : Nat → Nat → Nat) (ci j k : Nat) : Value := if rk ci k = 0 then .int (I j k) else if rk ci k = 1 then .ref (ad (j + of ci k)) else if rk ci k = 2 then .ref (ad (of ci k)) else .ref (ad (G j k))
def fds (ad : Nat → Nat) (I : Nat → Nat → Int32) (G : Nat → Nat → Nat) (ci j : Nat) : List Value := (List.range (nf ci)).map (fd ad I G ci j)
/-- the slot that an array of references holds at i -/
def rf (j i : Nat) : Nat := if kd j = 13 then 58 + 52 * i else if kd j = 14 then j + 2 + 5 * i else j + 1 + i
/-- the array classes: int, byte, short, boolean, long, Problem, Rule, int[] -/
def ck (K : Nat → ClassId) (k : Nat) : ClassId := K (k - 8)
def cell (K : Nat → ClassId) (ad : Nat → Nat) (I : Nat → Nat → Int32) (G : Nat → Nat → Nat) (A : Nat → Nat → Int32) (L : Nat → Nat → Int64) (j : Nat) : va_E :=
  if kd j < 8 then .inr (kd j, fds ad I G (kd j) j) else if kd j < 12 then .inl (ck K (kd j), ln j, .inl (A j)) else if kd j = 12 then .inl (ck K 12, ln j, .inr (.inl (L j))) else .inl (ck K (kd j), ln j, .inr (.inr (.inr (.inr (fun i => if i < ln j then some (ad (rf j i)) else none)))))
def VW (K : Nat → ClassId) (ad : Nat → Nat) (I : Nat → Nat → Int32) (G : Nat → Nat → Nat) (A : Nat → Nat → Int32) (L : Nat → Nat → Int64) : va_W := (List.range NS).map (fun j => (ad j, cell K ad I G A L j))
def tyA (K : Nat → ClassId) : List (ClassId × FieldType) := [(K 0, .int), (K 1, .byte), (K 2, .short), (K 3, .boolean), (K 4, .long), (K 5, .object RX1), (K 6, .object RX2), (K 7, .array .int)]
theorem VW_at {K : Nat → ClassId} {ad : Nat → Nat} {I : Nat → Nat → Int32} {G : Nat → Nat → Nat} {A : Nat → Nat → Int32} {L : Nat → Nat → Int64} {j : Nat} (hj : j < NS) : (VW K ad I G A L)[j]? = some (ad j, cell K ad I G A L j) := by
  simp [VW, List.getElem?_map, List.getElem?_range hj]
theorem mp_set {ad : Nat → Nat} {f g : Nat → va_E} {n j : Nat} {e : va_E} (h1 : g j = e) (h2 : ∀ i, i ≠ j → g i = f i) : ((List.range n).map (fun i => (ad i, f i))).set j (ad j, e) = (List.range n).map (fun i => (ad i, g i)) := by
  apply List.ext_getElem?
  intro i
  rw [List.getElem?_set]
  by_cases hij : j = i
  · subst hij
    by_cases hl : j < n
    · simp [hl, h1]
    · simp [hl]
  · rw [if_neg hij, List.getElem?_map, List.getElem?_map]
    by_cases hl : i < n
    · rw [List.getElem?_range hl]; simp [h2 i (Ne.symm hij)]
    · rw [List.getElem?_eq_none (by simpa using hl)]; rfl
theorem fds_at {ad : Nat → Nat} {I : Nat → Nat → Int32} {G : Nat → Nat → Nat} {ci j k : Nat} (hk : k < nf ci) : (fds ad I G ci j)[k]? = some (fd ad I G ci j k) := by
  simp [fds, List.getElem?_map, List.getElem?_range hk]
theorem ran_set {α : Type} {f g : Nat → α} {n k : Nat} {v : α} (h1 : g k = v) (h2 : ∀ i, i ≠ k → g i = f i) : ((List.range n).map f).set k v = (List.range n).map g := by
  apply List.ext_getElem?
  intro i
  rw [List.getElem?_set]
  by_cases hij : k = i
  · subst hij
    by_cases hl : k < n
    · simp [hl, h1]
    · simp [hl]
  · rw [if_neg hij, List.getElem?_map, List.getElem?_map]
    by_cases hl : i < n
    · rw [List.getElem?_range hl]; simp [h2 i (Ne.symm hij)]
    · rw [List.getElem?_eq_none (by simpa using hl)]; rfl
section VMS
variable {K : Nat → ClassId} {ad : Nat → Nat} {I : Nat → Nat → Int32} {G : Nat → Nat → Nat} {A : Nat → Nat → Int32} {L : Nat → Nat → Int64}
theorem cell_o {j ci : Nat} (h : kd j = ci) (hc : ci < 8) : cell K ad I G A L j = .inr (ci, fds ad I G ci j) := by subst h; simp [cell, hc]
theorem cell_a {j q : Nat} (h : kd j = q) (h1 : 8 ≤ q) (h2 : q < 12) : cell K ad I G A L j = .inl (ck K q, ln j, .inl (A j)) := by subst h; simp [cell, h2, Nat.not_lt.mpr h1]
theorem cell_l {j : Nat} (h : kd j = 12) : cell K ad I G A L j = .inl (ck K 12, ln j, .inr (.inl (L j))) := by simp [cell, h]
theorem cell_q {j q : Nat} (h : kd j = q) (h1 : 13 ≤ q) : cell K ad I G A L j = .inl (ck K q, ln j, .inr (.inr (.inr (.inr (fun i => if i < ln j then some (ad (rf j i)) else none))))) := by
  subst h
  have a : ¬ kd j < 8 := by omega
  have b : ¬ kd j < 12 := by omega
  have c : ¬ kd j = 12 := by omega
  simp only [cell, if_neg a, if_neg b, if_neg c]
theorem VW_I {j k ci : Nat} {v : Int32} (h : kd j = ci) (hc : ci < 8) (hr : rk ci k = 0) : (VW K ad I G A L).set j (ad j, .inr (ci, (fds ad I G ci j).set k (.int v))) = VW K ad (up2 I j k v) G A L := by
  refine mp_set (g := cell K ad (up2 I j k v) G A L) ?_ (fun i hi => ?_)
  · rw [cell_o h hc]
    refine congrArg (fun x => Sum.inr (ci, x)) ?_
    exact (ran_set (by simp [fd, hr, up2_s]) (fun i hi => by simp only [fd]; rw [up2_k hi])).symm
  · unfold cell fds
    have e : ∀ c, fd ad (up2 I j k v) G c i = fd ad I G c i := fun c => funext fun x => by simp only [fd]; rw [up2_j hi]
    rw [e]
theorem VW_R {j k ci q : Nat} (h : kd j = ci) (hc : ci < 8) (hr : rk ci k = 3) : (VW K ad I G A L).set j (ad j, .inr (ci, (fds ad I G ci j).set k (.ref (ad q)))) = VW K ad I (up2 G j k q) A L := by
  refine mp_set (g := cell K ad I (up2 G j k q) A L) ?_ (fun i hi => ?_)
  · rw [cell_o h hc]
    refine congrArg (fun x => Sum.inr (ci, x)) ?_
    exact (ran_set (by simp [fd, hr, up2_s]) (fun i hi => by simp only [fd]; rw [up2_k hi])).symm
  · unfold cell fds
    have e : ∀ c, fd ad I (up2 G j k q) c i = fd ad I G c i := fun c => funext fun x => by simp only [fd]; rw [up2_j hi]
    rw [e]
theorem up2_row (F : Nat → Nat → Int32) (j k : Nat) (v : Int32) : up2 F j k v j = upd (F j) k v := by
  funext b
  by_cases h : b = k
  · subst h; rw [up2_s, pk_us]
  · rw [up2_k h, pk_un h]
theorem up2_rowL (F : Nat → Nat → Int64) (j k : Nat) (v : Int64) : up2 F j k v j = vp_updL (F j) k v := by
  funext b
  by_cases h : b = k
  · subst h; rw [up2_s, pk_uLs]
  · rw [up2_k h, pk_uLn h]
theorem up2_oth {α : Type} {F : Nat → Nat → α} {j k i : Nat} {v : α} (h : i ≠ j) : up2 F j k v i = F i := funext fun b => up2_j h
theorem VW_A {j k q : Nat} {v : Int32} (h : kd j = q) (h1 : 8 ≤ q) (h2 : q < 12) : (VW K ad I G A L).set j (ad j, .inl (ck K q, ln j, .inl (upd (A j) k v))) = VW K ad I G (up2 A j k v) L := by
  refine mp_set (g := cell K ad I G (up2 A j k v) L) ?_ (fun i hi => ?_)
  · rw [cell_a h h1 h2, up2_row]
  · unfold cell; rw [up2_oth hi]
theorem VW_L {j k : Nat} {v : Int64} (h : kd j = 12) : (VW K ad I G A L).set j (ad j, .inl (ck K 12, ln j, .inr (.inl (vp_updL (L j) k v)))) = VW K ad I G A (up2 L j k v) := by
  refine mp_set (g := cell K ad I G A (up2 L j k v)) ?_ (fun i hi => ?_)
  · rw [cell_l h, up2_rowL]
  · unfold cell; rw [up2_oth hi]
/-- the slots are apart, and of a kind -/
def apart (ad : Nat → Nat) (B : Nat → Prop) : Prop := (∀ i j, i < NS → j < NS → ad i = ad j → i = j) ∧ ∀ j, j < NS → B (ad j)
theorem VW_key {i : Nat} {q : Nat × va_E} (h : (VW K ad I G A L)[i]? = some q) : i < NS ∧ q.1 = ad i := by
  unfold VW at h
  rw [List.getElem?_map] at h
  by_cases hl : i < NS
  · rw [List.getElem?_range hl] at h; cases h; exact ⟨hl, rfl⟩
  · rw [List.getElem?_eq_none (by simpa using hl)] at h; cases h
theorem VW_D {B : Nat → Prop} (h : apart ad B) : va_D B (VW K ad I G A L) := by
  refine ⟨fun i j p q hi hj e => ?_, fun k q hk => ?_⟩
  · obtain ⟨a1, a2⟩ := VW_key hi
    obtain ⟨b1, b2⟩ := VW_key hj
    exact h.1 i j a1 b1 (by rw [← a2, ← b2]; exact e)
  · obtain ⟨a1, a2⟩ := VW_key hk
    rw [a2]; exact h.2 k a1
end VMS

/-! part 21.vmrows -/
section VMQ
variable {K : Nat → ClassId} {ad : Nat → Nat} {I : Nat → Nat → Int32} {G : Nat → Nat → Nat} {A : Nat → Nat → Int32} {L : Nat → Nat → Int64} {j : Nat}
theorem VW8 (hj : j < NS) (hd : kd j = 8) : (VW K ad I G A L)[j]? = some (ad j, .inl (K 0, ln j, .inl (A j))) := (VW_at hj).trans (by rw [cell_a hd (by decide) (by decide)]; rfl)
theorem VW9 (hj : j < NS) (hd : kd j = 9) : (VW K ad I G A L)[j]? = some (ad j, .inl (K 1, ln j, .inl (A j))) := (VW_at hj).trans (by rw [cell_a hd (by decide) (by decide)]; rfl)
theorem VW10 (hj : j < NS) (hd : kd j = 10) : (VW K ad I G A L)[j]? = some (ad j, .inl (K 2, ln j, .inl (A j))) := (VW_at hj).trans (by rw [cell_a hd (by decide) (by decide)]; rfl)
theorem VW11 (hj : j < NS) (hd : kd j = 11) : (VW K ad I G A L)[j]? = some (ad j, .inl (K 3, ln j, .inl (A j))) := (VW_at hj).trans (by rw [cell_a hd (by decide) (by decide)]; rfl)
theorem VW12 (hj : j < NS) (hd : kd j = 12) : (VW K ad I G A L)[j]? = some (ad j, .inl (K 4, ln j, .inr (.inl (L j)))) := (VW_at hj).trans (by rw [cell_l hd]; rfl)
theorem VWq {q : Nat} (hj : j < NS) (hd : kd j = q) (hq : 13 ≤ q) : (VW K ad I G A L)[j]? = some (ad j, .inl (ck K q, ln j, .inr (.inr (.inr (.inr (fun i => if i < ln j then some (ad (rf j i)) else none)))))) := (VW_at hj).trans (by rw [cell_q hd hq])
theorem VWo {ci : Nat} (hj : j < NS) (hd : kd j = ci) (hci : ci < 8) : (VW K ad I G A L)[j]? = some (ad j, .inr (ci, fds ad I G ci j)) := (VW_at hj).trans (by rw [cell_o hd hci])
theorem VWs8 {k : Nat} {v : Int32} (hd : kd j = 8) : (VW K ad I G A L).set j (ad j, .inl (K 0, ln j, .inl (upd (A j) k v))) = VW K ad I G (up2 A j k v) L := VW_A hd (by decide) (by decide)
theorem VWs9 {k : Nat} {v : Int32} (hd : kd j = 9) : (VW K ad I G A L).set j (ad j, .inl (K 1, ln j, .inl (upd (A j) k v))) = VW K ad I G (up2 A j k v) L := VW_A hd (by decide) (by decide)
theorem VWs10 {k : Nat} {v : Int32} (hd : kd j = 10) : (VW K ad I G A L).set j (ad j, .inl (K 2, ln j, .inl (upd (A j) k v))) = VW K ad I G (up2 A j k v) L := VW_A hd (by decide) (by decide)
theorem VWs11 {k : Nat} {v : Int32} (hd : kd j = 11) : (VW K ad I G A L).set j (ad j, .inl (K 3, ln j, .inl (upd (A j) k v))) = VW K ad I G (up2 A j k v) L := VW_A hd (by decide) (by decide)
theorem VWs12 {k : Nat} {v : Int64} (hd : kd j = 12) : (VW K ad I G A L).set j (ad j, .inl (K 4, ln j, .inr (.inl (vp_updL (L j) k v)))) = VW K ad I G A (up2 L j k v) := VW_L hd
end VMQ
section VMR
variable {p : Program} {l : Launch} {e : Env} {Rm : Room} {s : State} {m : MethodId} {args : Array Value} {below : List Frame} {meth : Method} {c : Code} {H : Heap} {locs : List Loc} {cells slots : Nat} {Q : State → Prop}
variable {cc : ByteArray} {pc : Nat} {ls : Array Slot} {rest : List Value} {D : va_G} {B : Nat → Prop} {H0 : Heap} {K : Nat → ClassId} {ad : Nat → Nat} {I : Nat → Nat → Int32} {G : Nat → Nat → Nat} {A : Nat → Nat → Int32} {L : Nat → Nat → Int64}
/-- getfield: a number -/
theorem vgI (hx : p.tables.exec = Jvm.exec) (hb : c.code = cc) {own ref C : String} {T : u_T} {N ci index : Nat} {Ts : List Cond} (hts : ∀ w ∈ Ts, w.before args s = true) (hin : ∀ w ∈ u_ws C T N, w ∈ Ts) (hown : s.vm.findClass own = some m.cls) (hK : va_K D vwCl (tyA K) s) (hP : va_P D vwCl (VW K ad I G A L) H) (j : Nat) (hj : j < NS) (hd : kd j = ci) (hc : vwCl[ci]? = some (C, T, N)) (k : Nat) (hk : k < N) (hci : ci < 8) (hkn : k < nf ci) (hr : rk ci k = 0)
    (hlink : (Cond.fieldLink own index ref (T k).2.1 (T k).2.2.1).before args s = true) (hsame : ∀ x, s.fieldFound? (T k).1 (T k).2.1 (T k).2.2.1 = some x → s.fieldFound? ref (T k).2.1 (T k).2.2.1 = some x) (hdg : decode cc pc = .ok (.getfield index, 3)) (kk : W p l e Rm s m args below meth c H locs cells slots Q (F0 m (pc + 3) ls (.int (I j k) :: rest))) : W p l e Rm s m args below meth c H locs cells slots Q (F0 m pc ls (.ref (ad j) :: rest)) :=
  va_get (ci := ci) hx hb hts hin hown hK hP j (VWo hj hd hci) hc k hk hlink hsame ((fds_at hkn).trans (by simp only [fd, hr, if_true])) hdg kk
/-- getfield: a slot at a distance -/
theorem vgS (hx : p.tables.exec = Jvm.exec) (hb : c.code = cc) {own ref C : String} {T : u_T} {N ci index : Nat} {Ts : List Cond} (hts : ∀ w ∈ Ts, w.before args s = true) (hin : ∀ w ∈ u_ws C T N, w ∈ Ts) (hown : s.vm.findClass own = some m.cls) (hK : va_K D vwCl (tyA K) s) (hP : va_P D vwCl (VW K ad I G A L) H) (j : Nat) (hj : j < NS) (hd : kd j = ci) (hc : vwCl[ci]? = some (C, T, N)) (k : Nat) (hk : k < N) (hci : ci < 8) (hkn : k < nf ci) (hr : rk ci k = 1) (q : Nat) (hq : j + of ci k = q)
    (hlink : (Cond.fieldLink own index ref (T k).2.1 (T k).2.2.1).before args s = true) (hsame : ∀ x, s.fieldFound? (T k).1 (T k).2.1 (T k).2.2.1 = some x → s.fieldFound? ref (T k).2.1 (T k).2.2.1 = some x) (hdg : decode cc pc = .ok (.getfield index, 3)) (kk : W p l e Rm s m args below meth c H locs cells slots Q (F0 m (pc + 3) ls (.ref (ad q) :: rest))) : W p l e Rm s m args below meth c H locs cells slots Q (F0 m pc ls (.ref (ad j) :: rest)) :=
  va_get (ci := ci) hx hb hts hin hown hK hP j (VWo hj hd hci) hc k hk hlink hsame ((fds_at hkn).trans (by subst hq; simp [fd, hr])) hdg kk
/-- getfield: a slot by its number -/
theorem vgC (hx : p.tables.exec = Jvm.exec) (hb : c.code = cc) {own ref C : String} {T : u_T} {N ci index : Nat} {Ts : List Cond} (hts : ∀ w ∈ Ts, w.before args s = true) (hin : ∀ w ∈ u_ws C T N, w ∈ Ts) (hown : s.vm.findClass own = some m.cls) (hK : va_K D vwCl (tyA K) s) (hP : va_P D vwCl (VW K ad I G A L) H) (j : Nat) (hj : j < NS) (hd : kd j = ci) (hc : vwCl[ci]? = some (C, T, N)) (k : Nat) (hk : k < N) (hci : ci < 8) (hkn : k < nf ci) (hr : rk ci k = 2) (q : Nat) (hq : of ci k = q)
    (hlink : (Cond.fieldLink own index ref (T k).2.1 (T k).2.2.1).before args s = true) (hsame : ∀ x, s.fieldFound? (T k).1 (T k).2.1 (T k).2.2.1 = some x → s.fieldFound? ref (T k).2.1 (T k).2.2.1 = some x) (hdg : decode cc pc = .ok (.getfield index, 3)) (kk : W p l e Rm s m args below meth c H locs cells slots Q (F0 m (pc + 3) ls (.ref (ad q) :: rest))) : W p l e Rm s m args below meth c H locs cells slots Q (F0 m pc ls (.ref (ad j) :: rest)) :=
  va_get (ci := ci) hx hb hts hin hown hK hP j (VWo hj hd hci) hc k hk hlink hsame ((fds_at hkn).trans (by subst hq; simp [fd, hr])) hdg kk
/-- getfield: a slot that changes -/
theorem vgG (hx : p.tables.exec = Jvm.exec) (hb : c.code = cc) {own ref C : String} {T : u_T} {N ci index : Nat} {Ts : List Cond} (hts : ∀ w ∈ Ts, w.before args s = true) (hin : ∀ w ∈ u_ws C T N, w ∈ Ts) (hown : s.vm.findClass own = some m.cls) (hK : va_K D vwCl (tyA K) s) (hP : va_P D vwCl (VW K ad I G A L) H) (j : Nat) (hj : j < NS) (hd : kd j = ci) (hc : vwCl[ci]? = some (C, T, N)) (k : Nat) (hk : k < N) (hci : ci < 8) (hkn : k < nf ci) (hr : rk ci k = 3)
    (hlink : (Cond.fieldLink own index ref (T k).2.1 (T k).2.2.1).before args s = true) (hsame : ∀ x, s.fieldFound? (T k).1 (T k).2.1 (T k).2.2.1 = some x → s.fieldFound? ref (T k).2.1 (T k).2.2.1 = some x) (hdg : decode cc pc = .ok (.getfield index, 3)) (kk : W p l e Rm s m args below meth c H locs cells slots Q (F0 m (pc + 3) ls (.ref (ad (G j k)) :: rest))) : W p l e Rm s m args below meth c H locs cells slots Q (F0 m pc ls (.ref (ad j) :: rest)) :=
  va_get (ci := ci) hx hb hts hin hown hK hP j (VWo hj hd hci) hc k hk hlink hsame ((fds_at hkn).trans (by simp [fd, hr])) hdg kk
/-- putfield: a number -/
theorem vpI (hx : p.tables.exec = Jvm.exec) (hb : c.code = cc) {own ref C : String} {T : u_T} {N ci index : Nat} {Ts : List Cond} (hts : ∀ w ∈ Ts, w.before args s = true) (hin : ∀ w ∈ u_ws C T N, w ∈ Ts) (ty0 : Nat → FieldType) (hty : ∀ k, k < N → parseFieldDescriptor (T k).2.2.1 = some (ty0 k)) (hnm : ∀ a, a < N → ∀ b, b < N → a ≠ b → (T a).2.1 ≠ (T b).2.1) (hown : s.vm.findClass own = some m.cls) (hK : va_K D vwCl (tyA K) s) (hP : va_P D vwCl (VW K ad I G A L) H) (hap : apart ad B) (hS : va_S B H0 H locs) (j : Nat) (hj : j < NS) (hd : kd j = ci) (hc : vwCl[ci]? = some (C, T, N)) (k : Nat) (hk : k < N) (hci : ci < 8) (hkn : k < nf ci) (hr : rk ci k = 0)
    (hlink : (Cond.fieldLink own index ref (T k).2.1 (T k).2.2.1).before args s = true) (hsame : ∀ x, s.fieldFound? (T k).1 (T k).2.1 (T k).2.2.1 = some x → s.fieldFound? ref (T k).2.1 (T k).2.2.1 = some x) (hfin : (T k).2.2.2 = false) {ty : FieldType} {v : Int32} (hdd : parseFieldDescriptor (T k).2.2.1 = some ty) (hn : narrow ty (.int v) = .int v) (hfit : fits ty (.int v) = true) (hdg : decode cc pc = .ok (.putfield index, 3))
    (kk : ∀ (H1 : Heap) (locs1 : List Loc), va_P D vwCl (VW K ad (up2 I j k v) G A L) H1 → va_S B H0 H1 locs1 → W p l e Rm s m args below meth c H1 locs1 cells slots Q (F0 m (pc + 3) ls rest)) : W p l e Rm s m args below meth c H locs cells slots Q (F0 m pc ls (.int v :: .ref (ad j) :: rest)) := by
  refine va_put (ci := ci) (fs := fds ad I G ci j) hx hb hts hin ty0 hty hnm hown hK hP (VW_D hap) hS j (VWo hj hd hci) hc k hk hlink hsame hfin hdd hn hfit (by simpa [fds] using hkn) hdg (fun H1 locs1 hP1 _ hS1 => ?_)
  rw [VW_I hd hci hr] at hP1
  exact kk H1 locs1 hP1 hS1
/-- putfield: a slot that changes -/
theorem vpG (hx : p.tables.exec = Jvm.exec) (hb : c.code = cc) {own ref C : String} {T : u_T} {N ci index : Nat} {Ts : List Cond} (hts : ∀ w ∈ Ts, w.before args s = true) (hin : ∀ w ∈ u_ws C T N, w ∈ Ts) (ty0 : Nat → FieldType) (hty : ∀ k, k < N → parseFieldDescriptor (T k).2.2.1 = some (ty0 k)) (hnm : ∀ a, a < N → ∀ b, b < N → a ≠ b → (T a).2.1 ≠ (T b).2.1) (hown : s.vm.findClass own = some m.cls) (hK : va_K D vwCl (tyA K) s) (hP : va_P D vwCl (VW K ad I G A L) H) (hap : apart ad B) (hS : va_S B H0 H locs) (j : Nat) (hj : j < NS) (hd : kd j = ci) (hc : vwCl[ci]? = some (C, T, N)) (k : Nat) (hk : k < N) (hci : ci < 8) (hkn : k < nf ci) (hr : rk ci k = 3)
    (hlink : (Cond.fieldLink own index ref (T k).2.1 (T k).2.2.1).before args s = true) (hsame : ∀ x, s.fieldFound? (T k).1 (T k).2.1 (T k).2.2.1 = some x → s.fieldFound? ref (T k).2.1 (T k).2.2.1 = some x) (hfin : (T k).2.2.2 = false) {ty : FieldType} {q : Nat} (hdd : parseFieldDescriptor (T k).2.2.1 = some ty) (hn : narrow ty (.ref (ad q)) = .ref (ad q)) (hfit : fits ty (.ref (ad q)) = true) (hdg : decode cc pc = .ok (.putfield index, 3))
    (kk : ∀ (H1 : Heap) (locs1 : List Loc), va_P D vwCl (VW K ad I (up2 G j k q) A L) H1 → va_S B H0 H1 locs1 → W p l e Rm s m args below meth c H1 locs1 cells slots Q (F0 m (pc + 3) ls rest)) : W p l e Rm s m args below meth c H locs cells slots Q (F0 m pc ls (.ref (ad q) :: .ref (ad j) :: rest)) := by
  refine va_put (ci := ci) (fs := fds ad I G ci j) hx hb hts hin ty0 hty hnm hown hK hP (VW_D hap) hS j (VWo hj hd hci) hc k hk hlink hsame hfin hdd hn hfit (by simpa [fds] using hkn) hdg (fun H1 locs1 hP1 _ hS1 => ?_)
  rw [VW_R hd hci hr] at hP1
  exact kk H1 locs1 hP1 hS1
theorem vlen (hx : p.tables.exec = Jvm.exec) (hb : c.code = cc) (hK : va_K D vwCl (tyA K) s) (hP : va_P D vwCl (VW K ad I G A L) H) (j : Nat) (hj : j < NS) (hd : kd j = 8) (hdg : decode cc pc = .ok (.arraylength, 1)) (kk : W p l e Rm s m args below meth c H locs cells slots Q (F0 m (pc + 1) ls (.int (nI (ln j)) :: rest))) : W p l e Rm s m args below meth c H locs cells slots Q (F0 m pc ls (.ref (ad j) :: rest)) :=
  va_alen hx hb hK hP j 0 (VW8 hj hd) rfl rfl hdg kk
theorem vlenL (hx : p.tables.exec = Jvm.exec) (hb : c.code = cc) (hK : va_K D vwCl (tyA K) s) (hP : va_P D vwCl (VW K ad I G A L) H) (j : Nat) (hj : j < NS) (hd : kd j = 12) (hdg : decode cc pc = .ok (.arraylength, 1)) (kk : W p l e Rm s m args below meth c H locs cells slots Q (F0 m (pc + 1) ls (.int (nI (ln j)) :: rest))) : W p l e Rm s m args below meth c H locs cells slots Q (F0 m pc ls (.ref (ad j) :: rest)) :=
  va_alen hx hb hK hP j 4 (VW12 hj hd) rfl rfl hdg kk
theorem viald (hx : p.tables.exec = Jvm.exec) (hb : c.code = cc) (hK : va_K D vwCl (tyA K) s) (hP : va_P D vwCl (VW K ad I G A L) H) (j : Nat) (hj : j < NS) (hd : kd j = 8) {i : Int32} (n : Nat) (hi : i = nI n) (hn : n < ln j) (hln : ln j < 2 ^ 31) (hdg : decode cc pc = .ok (.iaload, 1)) (kk : W p l e Rm s m args below meth c H locs cells slots Q (F0 m (pc + 1) ls (.int (A j n) :: rest))) : W p l e Rm s m args below meth c H locs cells slots Q (F0 m pc ls (.int i :: .ref (ad j) :: rest)) := by
  subst hi
  refine va_iald hx hb hK hP j 0 (VW8 hj hd) rfl (vp_in_nI hn hln) hdg ?_
  rw [nI_clamp (by omega)]
  exact kk
theorem vbald (hx : p.tables.exec = Jvm.exec) (hb : c.code = cc) (hK : va_K D vwCl (tyA K) s) (hP : va_P D vwCl (VW K ad I G A L) H) (j : Nat) (hj : j < NS) (hd : kd j = 9) {i : Int32} (n : Nat) (hi : i = nI n) (hn : n < ln j) (hln : ln j < 2 ^ 31) (hdg : decode cc pc = .ok (.baload, 1)) (kk : W p l e Rm s m args below meth c H locs cells slots Q (F0 m (pc + 1) ls (.int (A j n) :: rest))) : W p l e Rm s m args below meth c H locs cells slots Q (F0 m pc ls (.int i :: .ref (ad j) :: rest)) := by
  subst hi
  refine va_bald hx hb hK hP j 1 (VW9 hj hd) rfl (vp_in_nI hn hln) hdg ?_
  rw [nI_clamp (by omega)]
  exact kk
theorem vsald (hx : p.tables.exec = Jvm.exec) (hb : c.code = cc) (hK : va_K D vwCl (tyA K) s) (hP : va_P D vwCl (VW K ad I G A L) H) (j : Nat) (hj : j < NS) (hd : kd j = 10) {i : Int32} (n : Nat) (hi : i = nI n) (hn : n < ln j) (hln : ln j < 2 ^ 31) (hdg : decode cc pc = .ok (.saload, 1)) (kk : W p l e Rm s m args below meth c H locs cells slots Q (F0 m (pc + 1) ls (.int (A j n) :: rest))) : W p l e Rm s m args below meth c H locs cells slots Q (F0 m pc ls (.int i :: .ref (ad j) :: rest)) := by
  subst hi
  refine va_sald hx hb hK hP j 2 (VW10 hj hd) rfl (vp_in_nI hn hln) hdg ?_
  rw [nI_clamp (by omega)]
  exact kk
theorem vzald (hx : p.tables.exec = Jvm.exec) (hb : c.code = cc) (hK : va_K D vwCl (tyA K) s) (hP : va_P D vwCl (VW K ad I G A L) H) (j : Nat) (hj : j < NS) (hd : kd j = 11) {i : Int32} (n : Nat) (hi : i = nI n) (hn : n < ln j) (hln : ln j < 2 ^ 31) (hdg : decode cc pc = .ok (.baload, 1)) (kk : W p l e Rm s m args below meth c H locs cells slots Q (F0 m (pc + 1) ls (.int (A j n) :: rest))) : W p l e Rm s m args below meth c H locs cells slots Q (F0 m pc ls (.int i :: .ref (ad j) :: rest)) := by
  subst hi
  refine va_zald hx hb hK hP j 3 (VW11 hj hd) rfl (vp_in_nI hn hln) hdg ?_
  rw [nI_clamp (by omega)]
  exact kk
theorem vlald (hx : p.tables.exec = Jvm.exec) (hb : c.code = cc) (hK : va_K D vwCl (tyA K) s) (hP : va_P D vwCl (VW K ad I G A L) H) (j : Nat) (hj : j < NS) (hd : kd j = 12) {i : Int32} (n : Nat) (hi : i = nI n) (hn : n < ln j) (hln : ln j < 2 ^ 31) (hdg : decode cc pc = .ok (.laload, 1)) (kk : W p l e Rm s m args below meth c H locs cells slots Q (F0 m (pc + 1) ls (.long (L j n) :: rest))) : W p l e Rm s m args below meth c H locs cells slots Q (F0 m pc ls (.int i :: .ref (ad j) :: rest)) := by
  subst hi
  refine va_lald hx hb hK hP j 4 (VW12 hj hd) rfl (vp_in_nI hn hln) hdg ?_
  rw [nI_clamp (by omega)]
  exact kk
theorem viast (hx : p.tables.exec = Jvm.exec) (hb : c.code = cc) (hK : va_K D vwCl (tyA K) s) (hP : va_P D vwCl (VW K ad I G A L) H) (hap : apart ad B) (hS : va_S B H0 H locs) (j : Nat) (hj : j < NS) (hd : kd j = 8) {i x : Int32} (n : Nat) (hi : i = nI n) (hn : n < ln j) (hln : ln j < 2 ^ 31) (hdg : decode cc pc = .ok (.iastore, 1))
    (kk : ∀ (H1 : Heap) (locs1 : List Loc), va_P D vwCl (VW K ad I G (up2 A j n x) L) H1 → va_S B H0 H1 locs1 → W p l e Rm s m args below meth c H1 locs1 cells slots Q (F0 m (pc + 1) ls rest)) : W p l e Rm s m args below meth c H locs cells slots Q (F0 m pc ls (.int x :: .int i :: .ref (ad j) :: rest)) := by
  subst hi
  refine va_iast hx hb hK hP (VW_D hap) hS j 0 (VW8 hj hd) rfl (vp_in_nI hn hln) hdg (fun H1 locs1 hP1 _ hS1 => ?_)
  rw [nI_clamp (by omega), VWs8 hd] at hP1
  exact kk H1 locs1 hP1 hS1
theorem vbast (hx : p.tables.exec = Jvm.exec) (hb : c.code = cc) (hK : va_K D vwCl (tyA K) s) (hP : va_P D vwCl (VW K ad I G A L) H) (hap : apart ad B) (hS : va_S B H0 H locs) (j : Nat) (hj : j < NS) (hd : kd j = 9) {i x : Int32} (n : Nat) (hi : i = nI n) (hn : n < ln j) (hln : ln j < 2 ^ 31) (hdg : decode cc pc = .ok (.bastore, 1))
    (kk : ∀ (H1 : Heap) (locs1 : List Loc), va_P D vwCl (VW K ad I G (up2 A j n (vp_nar .byte x)) L) H1 → va_S B H0 H1 locs1 → W p l e Rm s m args below meth c H1 locs1 cells slots Q (F0 m (pc + 1) ls rest)) : W p l e Rm s m args below meth c H locs cells slots Q (F0 m pc ls (.int x :: .int i :: .ref (ad j) :: rest)) := by
  subst hi
  refine va_bast hx hb hK hP (VW_D hap) hS j 1 (VW9 hj hd) rfl (vp_in_nI hn hln) hdg (fun H1 locs1 hP1 _ hS1 => ?_)
  rw [nI_clamp (by omega), VWs9 hd] at hP1
  exact kk H1 locs1 hP1 hS1
theorem vsast (hx : p.tables.exec = Jvm.exec) (hb : c.code = cc) (hK : va_K D vwCl (tyA K) s) (hP : va_P D vwCl (VW K ad I G A L) H) (hap : apart ad B) (hS : va_S B H0 H locs) (j : Nat) (hj : j < NS) (hd : kd j = 10) {i x : Int32} (n : Nat) (hi : i = nI n) (hn : n < ln j) (hln : ln j < 2 ^ 31) (hdg : decode cc pc = .ok (.sastore, 1))
    (kk : ∀ (H1 : Heap) (locs1 : List Loc), va_P D vwCl (VW K ad I G (up2 A j n (vp_nar .short x)) L) H1 → va_S B H0 H1 locs1 → W p l e Rm s m args below meth c H1 locs1 cells slots Q (F0 m (pc + 1) ls rest)) : W p l e Rm s m args below meth c H locs cells slots Q (F0 m pc ls (.int x :: .int i :: .ref (ad j) :: rest)) := by
  subst hi
  refine va_sast hx hb hK hP (VW_D hap) hS j 2 (VW10 hj hd) rfl (vp_in_nI hn hln) hdg (fun H1 locs1 hP1 _ hS1 => ?_)
  rw [nI_clamp (by omega), VWs10 hd] at hP1
  exact kk H1 locs1 hP1 hS1
theorem vzast (hx : p.tables.exec = Jvm.exec) (hb : c.code = cc) (hK : va_K D vwCl (tyA K) s) (hP : va_P D vwCl (VW K ad I G A L) H) (hap : apart ad B) (hS : va_S B H0 H locs) (j : Nat) (hj : j < NS) (hd : kd j = 11) {i x : Int32} (n : Nat) (hi : i = nI n) (hn : n < ln j) (hln : ln j < 2 ^ 31) (hdg : decode cc pc = .ok (.bastore, 1))
    (kk : ∀ (H1 : Heap) (locs1 : List Loc), va_P D vwCl (VW K ad I G (up2 A j n (vp_nar .boolean x)) L) H1 → va_S B H0 H1 locs1 → W p l e Rm s m args below meth c H1 locs1 cells slots Q (F0 m (pc + 1) ls rest)) : W p l e Rm s m args below meth c H locs cells slots Q (F0 m pc ls (.int x :: .int i :: .ref (ad j) :: rest)) := by
  subst hi
  refine va_zast hx hb hK hP (VW_D hap) hS j 3 (VW11 hj hd) rfl (vp_in_nI hn hln) hdg (fun H1 locs1 hP1 _ hS1 => ?_)
  rw [nI_clamp (by omega), VWs11 hd] at hP1
  exact kk H1 locs1 hP1 hS1
theorem vlast (hx : p.tables.exec = Jvm.exec) (hb : c.code = cc) (hK : va_K D vwCl (tyA K) s) (hP : va_P D vwCl (VW K ad I G A L) H) (hap : apart ad B) (hS : va_S B H0 H locs) (j : Nat) (hj : j < NS) (hd : kd j = 12) {i : Int32} {x : Int64} (n : Nat) (hi : i = nI n) (hn : n < ln j) (hln : ln j < 2 ^ 31) (hdg : decode cc pc = .ok (.lastore, 1))
    (kk : ∀ (H1 : Heap) (locs1 : List Loc), va_P D vwCl (VW K ad I G A (up2 L j n x)) H1 → va_S B H0 H1 locs1 → W p l e Rm s m args below meth c H1 locs1 cells slots Q (F0 m (pc + 1) ls rest)) : W p l e Rm s m args below meth c H locs cells slots Q (F0 m pc ls (.long x :: .int i :: .ref (ad j) :: rest)) := by
  subst hi
  refine va_last hx hb hK hP (VW_D hap) hS j 4 (VW12 hj hd) rfl (vp_in_nI hn hln) hdg (fun H1 locs1 hP1 _ hS1 => ?_)
  rw [nI_clamp (by omega), VWs12 hd] at hP1
  exact kk H1 locs1 hP1 hS1
/-- a slot out of Problem[], Rule[] -/
theorem vaald (hx : p.tables.exec = Jvm.exec) (hb : c.code = cc) (hK : va_K D vwCl (tyA K) s) (hP : va_P D vwCl (VW K ad I G A L) H) (j : Nat) (hj : j < NS) (t0 q : Nat) {Cn : String} (hd : kd j = q) (hq : 13 ≤ q) (ht : (tyA K)[t0]? = some (ck K q, .object Cn)) {i : Int32} (n : Nat) (hi : i = nI n) (hn : n < ln j) (hln : ln j < 2 ^ 31) (r : Nat) (hr : rf j n = r) (hdg : decode cc pc = .ok (.aaload, 1)) (kk : W p l e Rm s m args below meth c H locs cells slots Q (F0 m (pc + 1) ls (.ref (ad r) :: rest))) : W p l e Rm s m args below meth c H locs cells slots Q (F0 m pc ls (.int i :: .ref (ad j) :: rest)) := by
  subst hi
  refine va_aldq hx hb hK hP j t0 (VWq hj hd hq) ht (vp_in_nI hn hln) hdg ?_
  rw [nI_clamp (by omega), if_pos hn, hr]
  exact kk
end VMR
section VMX
variable {p : Program} {l : Launch} {e : Env} {Rm : Room} {s : State} {m : MethodId} {args : Array Value} {below : List Frame} {meth : Method} {c : Code} {H : Heap} {locs : List Loc} {cells slots : Nat} {Q : State → Prop}
variable {cc : ByteArray} {pc : Nat} {ls : Array Slot} {rest : List Value} {D : va_G} {B : Nat → Prop} {H0 : Heap} {K : Nat → ClassId} {ad : Nat → Nat} {I : Nat → Nat → Int32} {G : Nat → Nat → Nat} {A : Nat → Nat → Int32} {L : Nat → Nat → Int64}
theorem xiald (hx : p.tables.exec = Jvm.exec) (hb : c.code = cc) (hK : va_K D vwCl (tyA K) s) (hP : va_P D vwCl (VW K ad I G A L) H) (j : Nat) (hj : j < NS) (hd : kd j = 8) {i : Int32} (hin : vp_in i (ln j)) (hdg : decode cc pc = .ok (.iaload, 1)) (kk : W p l e Rm s m args below meth c H locs cells slots Q (F0 m (pc + 1) ls (.int (A j i.toNatClampNeg) :: rest))) : W p l e Rm s m args below meth c H locs cells slots Q (F0 m pc ls (.int i :: .ref (ad j) :: rest)) :=
  va_iald hx hb hK hP j 0 (VW8 hj hd) rfl hin hdg kk
theorem xbald (hx : p.tables.exec = Jvm.exec) (hb : c.code = cc) (hK : va_K D vwCl (tyA K) s) (hP : va_P D vwCl (VW K ad I G A L) H) (j : Nat) (hj : j < NS) (hd : kd j = 9) {i : Int32} (hin : vp_in i (ln j)) (hdg : decode cc pc = .ok (.baload, 1)) (kk : W p l e Rm s m args below meth c H locs cells slots Q (F0 m (pc + 1) ls (.int (A j i.toNatClampNeg) :: rest))) : W p l e Rm s m args below meth c H locs cells slots Q (F0 m pc ls (.int i :: .ref (ad j) :: rest)) :=
  va_bald hx hb hK hP j 1 (VW9 hj hd) rfl hin hdg kk
theorem xsald (hx : p.tables.exec = Jvm.exec) (hb : c.code = cc) (hK : va_K D vwCl (tyA K) s) (hP : va_P D vwCl (VW K ad I G A L) H) (j : Nat) (hj : j < NS) (hd : kd j = 10) {i : Int32} (hin : vp_in i (ln j)) (hdg : decode cc pc = .ok (.saload, 1)) (kk : W p l e Rm s m args below meth c H locs cells slots Q (F0 m (pc + 1) ls (.int (A j i.toNatClampNeg) :: rest))) : W p l e Rm s m args below meth c H locs cells slots Q (F0 m pc ls (.int i :: .ref (ad j) :: rest)) :=
  va_sald hx hb hK hP j 2 (VW10 hj hd) rfl hin hdg kk
theorem xzald (hx : p.tables.exec = Jvm.exec) (hb : c.code = cc) (hK : va_K D vwCl (tyA K) s) (hP : va_P D vwCl (VW K ad I G A L) H) (j : Nat) (hj : j < NS) (hd : kd j = 11) {i : Int32} (hin : vp_in i (ln j)) (hdg : decode cc pc = .ok (.baload, 1)) (kk : W p l e Rm s m args below meth c H locs cells slots Q (F0 m (pc + 1) ls (.int (A j i.toNatClampNeg) :: rest))) : W p l e Rm s m args below meth c H locs cells slots Q (F0 m pc ls (.int i :: .ref (ad j) :: rest)) :=
  va_zald hx hb hK hP j 3 (VW11 hj hd) rfl hin hdg kk
theorem xlald (hx : p.tables.exec = Jvm.exec) (hb : c.code = cc) (hK : va_K D vwCl (tyA K) s) (hP : va_P D vwCl (VW K ad I G A L) H) (j : Nat) (hj : j < NS) (hd : kd j = 12) {i : Int32} (hin : vp_in i (ln j)) (hdg : decode cc pc = .ok (.laload, 1)) (kk : W p l e Rm s m args below meth c H locs cells slots Q (F0 m (pc + 1) ls (.long (L j i.toNatClampNeg) :: rest))) : W p l e Rm s m args below meth c H locs cells slots Q (F0 m pc ls (.int i :: .ref (ad j) :: rest)) :=
  va_lald hx hb hK hP j 4 (VW12 hj hd) rfl hin hdg kk
theorem xiast (hx : p.tables.exec = Jvm.exec) (hb : c.code = cc) (hK : va_K D vwCl (tyA K) s) (hP : va_P D vwCl (VW K ad I G A L) H) (hap : apart ad B) (hS : va_S B H0 H locs) (j : Nat) (hj : j < NS) (hd : kd j = 8) {i : Int32} {x : Int32} (hin : vp_in i (ln j)) (hdg : decode cc pc = .ok (.iastore, 1)) (kk : ∀ (H1 : Heap) (locs1 : List Loc), va_P D vwCl (VW K ad I G (up2 A j i.toNatClampNeg x) L) H1 → va_S B H0 H1 locs1 → W p l e Rm s m args below meth c H1 locs1 cells slots Q (F0 m (pc + 1) ls rest)) : W p l e Rm s m args below meth c H locs cells slots Q (F0 m pc ls (.int x :: .int i :: .ref (ad j) :: rest)) := by
  refine va_iast hx hb hK hP (VW_D hap) hS j 0 (VW8 hj hd) rfl hin hdg (fun H1 locs1 hP1 _ hS1 => ?_)
  rw [VWs8 hd] at hP1
  exact kk H1 locs1 hP1 hS1
theorem xbast (hx : p.tables.exec = Jvm.exec) (hb : c.code = cc) (hK : va_K D vwCl (tyA K) s) (hP : va_P D vwCl (VW K ad I G A L) H) (hap : apart ad B) (hS : va_S B H0 H locs) (j : Nat) (hj : j < NS) (hd : kd j = 9) {i : Int32} {x : Int32} (hin : vp_in i (ln j)) (hdg : decode cc pc = .ok (.bastore, 1)) (kk : ∀ (H1 : Heap) (locs1 : List Loc), va_P D vwCl (VW K ad I G (up2 A j i.toNatClampNeg (vp_nar .byte x)) L) H1 → va_S B H0 H1 locs1 → W p l e Rm s m args below meth c H1 locs1 cells slots Q (F0 m (pc + 1) ls rest)) : W p l e Rm s m args below meth c H locs cells slots Q (F0 m pc ls (.int x :: .int i :: .ref (ad j) :: rest)) := by
  refine va_bast hx hb hK hP (VW_D hap) hS j 1 (VW9 hj hd) rfl hin hdg (fun H1 locs1 hP1 _ hS1 => ?_)
  rw [VWs9 hd] at hP1
  exact kk H1 locs1 hP1 hS1
theorem xsast (hx : p.tables.exec = Jvm.exec) (hb : c.code = cc) (hK : va_K D vwCl (tyA K) s) (hP : va_P D vwCl (VW K ad I G A L) H) (hap : apart ad B) (hS : va_S B H0 H locs) (j : Nat) (hj : j < NS) (hd : kd j = 10) {i : Int32} {x : Int32} (hin : vp_in i (ln j)) (hdg : decode cc pc = .ok (.sastore, 1)) (kk : ∀ (H1 : Heap) (locs1 : List Loc), va_P D vwCl (VW K ad I G (up2 A j i.toNatClampNeg (vp_nar .short x)) L) H1 → va_S B H0 H1 locs1 → W p l e Rm s m args below meth c H1 locs1 cells slots Q (F0 m (pc + 1) ls rest)) : W p l e Rm s m args below meth c H locs cells slots Q (F0 m pc ls (.int x :: .int i :: .ref (ad j) :: rest)) := by
  refine va_sast hx hb hK hP (VW_D hap) hS j 2 (VW10 hj hd) rfl hin hdg (fun H1 locs1 hP1 _ hS1 => ?_)
  rw [VWs10 hd] at hP1
  exact kk H1 locs1 hP1 hS1
theorem xzast (hx : p.tables.exec = Jvm.exec) (hb : c.code = cc) (hK : va_K D vwCl (tyA K) s) (hP : va_P D vwCl (VW K ad I G A L) H) (hap : apart ad B) (hS : va_S B H0 H locs) (j : Nat) (hj : j < NS) (hd : kd j = 11) {i : Int32} {x : Int32} (hin : vp_in i (ln j)) (hdg : decode cc pc = .ok (.bastore, 1)) (kk : ∀ (H1 : Heap) (locs1 : List Loc), va_P D vwCl (VW K ad I G (up2 A j i.toNatClampNeg (vp_nar .boolean x)) L) H1 → va_S B H0 H1 locs1 → W p l e Rm s m args below meth c H1 locs1 cells slots Q (F0 m (pc + 1) ls rest)) : W p l e Rm s m args below meth c H locs cells slots Q (F0 m pc ls (.int x :: .int i :: .ref (ad j) :: rest)) := by
  refine va_zast hx hb hK hP (VW_D hap) hS j 3 (VW11 hj hd) rfl hin hdg (fun H1 locs1 hP1 _ hS1 => ?_)
  rw [VWs11 hd] at hP1
  exact kk H1 locs1 hP1 hS1
theorem xlast (hx : p.tables.exec = Jvm.exec) (hb : c.code = cc) (hK : va_K D vwCl (tyA K) s) (hP : va_P D vwCl (VW K ad I G A L) H) (hap : apart ad B) (hS : va_S B H0 H locs) (j : Nat) (hj : j < NS) (hd : kd j = 12) {i : Int32} {x : Int64} (hin : vp_in i (ln j)) (hdg : decode cc pc = .ok (.lastore, 1)) (kk : ∀ (H1 : Heap) (locs1 : List Loc), va_P D vwCl (VW K ad I G A (up2 L j i.toNatClampNeg x)) H1 → va_S B H0 H1 locs1 → W p l e Rm s m args below meth c H1 locs1 cells slots Q (F0 m (pc + 1) ls rest)) : W p l e Rm s m args below meth c H locs cells slots Q (F0 m pc ls (.long x :: .int i :: .ref (ad j) :: rest)) := by
  refine va_last hx hb hK hP (VW_D hap) hS j 4 (VW12 hj hd) rfl hin hdg (fun H1 locs1 hP1 _ hS1 => ?_)
  rw [VWs12 hd] at hP1
  exact kk H1 locs1 hP1 hS1
theorem xaald (hx : p.tables.exec = Jvm.exec) (hb : c.code = cc) (hK : va_K D vwCl (tyA K) s) (hP : va_P D vwCl (VW K ad I G A L) H) (j : Nat) (hj : j < NS) (t0 q : Nat) {Cn : String} (hd : kd j = q) (hq : 13 ≤ q) (ht : (tyA K)[t0]? = some (ck K q, .object Cn)) {i : Int32} (hin : vp_in i (ln j)) (r : Nat) (hr : rf j i.toNatClampNeg = r) (hdg : decode cc pc = .ok (.aaload, 1)) (kk : W p l e Rm s m args below meth c H locs cells slots Q (F0 m (pc + 1) ls (.ref (ad r) :: rest))) : W p l e Rm s m args below meth c H locs cells slots Q (F0 m pc ls (.int i :: .ref (ad j) :: rest)) := by
  refine va_aldq hx hb hK hP j t0 (VWq hj hd hq) ht hin hdg ?_
  rw [if_pos (Nat.lt_of_not_le (fun h => hin (Or.inr h))), hr]
  exact kk
theorem xgald (hx : p.tables.exec = Jvm.exec) (hb : c.code = cc) (hK : va_K D vwCl (tyA K) s) (hP : va_P D vwCl (VW K ad I G A L) H) (j : Nat) (hj : j < NS) (hd : kd j = 15) {i : Int32} (hin : vp_in i (ln j)) (r : Nat) (hr : rf j i.toNatClampNeg = r) (hdg : decode cc pc = .ok (.aaload, 1)) (kk : W p l e Rm s m args below meth c H locs cells slots Q (F0 m (pc + 1) ls (.ref (ad r) :: rest))) : W p l e Rm s m args below meth c H locs cells slots Q (F0 m pc ls (.int i :: .ref (ad j) :: rest)) := by
  have hlt : i.toNatClampNeg < ln j := Nat.lt_of_not_le (fun h => hin (Or.inr h))
  have ha := VWq (K := K) (ad := ad) (I := I) (G := G) (A := A) (L := L) hj hd (by decide)
  refine W.aald (v := .ref (ad r)) (ty := .array .int) hx hb (hP j _ ha) ((hK.2 7 (K 7, .array .int) rfl).1 (ln j) (fun q => va_rf (if q < ln j then some (ad (rf j q)) else none))) rfl (fun q => by cases q) (by show ¬ (i < 0 ∨ (arrV _ _ _).slots.size ≤ _); rw [arrV_size]; exact hin) (by show (arrV _ _ _).slots[_]? = _; rw [arrV_read _ _ hlt]; show some (va_rf (if i.toNatClampNeg < ln j then some (ad (rf j i.toNatClampNeg)) else none)) = _; rw [if_pos hlt, hr]; rfl) rfl rfl hdg kk
theorem rf13 {j n : Nat} (h : kd j = 13) : rf j n = 58 + 52 * n := by simp [rf, h]
theorem rf14 {j n : Nat} (h : kd j = 14) : rf j n = j + 2 + 5 * n := by simp [rf, h]
theorem rf15 {j n : Nat} (h : kd j = 15) : rf j n = j + 1 + n := by simp [rf, h]
end VMX

/-! part 22.vmcall -/
/-- what memory is: I, G, A, L -/
abbrev Mem : Type := (Nat → Nat → Int32) × (Nat → Nat → Nat) × (Nat → Nat → Int32) × (Nat → Nat → Int64)
abbrev VM (K : Nat → ClassId) (ad : Nat → Nat) (M : Mem) : va_W := VW K ad M.1 M.2.1 M.2.2.1 M.2.2.2
/-- the cells that a method may change: the slots, and what is new -/
def vF (ad : Nat → Nat) (sz : Nat) : Nat → Prop := fun q => (∃ j, j < NS ∧ q = ad j) ∨ sz ≤ q
theorem vF_ap {ad : Nat → Nat} (h : apart ad (fun _ => True)) (sz : Nat) : apart ad (vF ad sz) := ⟨h.1, fun j hj => Or.inl ⟨j, hj, rfl⟩⟩
/-- a method's start: the memory lies in the heap -/
abbrev vP (D : va_G) (K : Nat → ClassId) (ad : Nat → Nat) (av : List Value) (M : Mem) (sz : Nat) : Array Value → State → Prop := va_Pc av (fun U => U.heap.size = sz ∧ va_P D vwCl (VM K ad M) U.heap ∧ va_K D vwCl (tyA K) U)
/-- its end -/
abbrev vB (D : va_G) (K : Nat → ClassId) (ad : Nat → Nat) (u : Mem) (t : State) : Prop := va_P D vwCl (VM K ad u) t.heap ∧ va_K D vwCl (tyA K) t
/-- a contract of a method with an int or boolean answer, and of one with none -/
def Ci (l : Launch) (D : va_G) (K : Nat → ClassId) (ad : Nat → Nat) (y : MethodName) (ws : List Cond) (fr lo : Nat) (av : List Value) (M : Mem) (post : Int32 → Mem → Prop) : Prop := ∀ sz : Nat, Met l y ws ({ frames := fr, cells := 0, slots := 0, locals := lo }) (vP D K ad av M sz) (va_Qi post (vB D K ad) (vF ad sz)) 0 0 (vF ad sz)
def Cv (l : Launch) (D : va_G) (K : Nat → ClassId) (ad : Nat → Nat) (y : MethodName) (ws : List Cond) (fr lo : Nat) (av : List Value) (M : Mem) (post : Mem → Prop) : Prop := ∀ sz : Nat, Met l y ws ({ frames := fr, cells := 0, slots := 0, locals := lo }) (vP D K ad av M sz) (va_Qv post (vB D K ad) (vF ad sz)) 0 0 (vF ad sz)
theorem vP_blind {D : va_G} {K : Nat → ClassId} {ad : Nat → Nat} {av : List Value} {M : Mem} {sz : Nat} : FrameBlind (vP D K ad av M sz) := fun a U g mk q => by
  obtain ⟨q0, q1, qP, qK⟩ := q
  exact ⟨q0, q1, qP, va_K.moved (u := U) (U := U.calling g mk a) (Vm.Alike.refl U.vm) qK⟩
section VMC
variable {p : Program} {l : Launch} {e : Env} {R : Room} {s : State} {m : MethodId} {args : Array Value} {below : List Frame} {meth : Method} {c : Code} {H : Heap} {locs : List Loc} {cells slots : Nat} {Q : State → Prop}
variable {pc : Nat} {ls : Array Slot} {rest : List Value} {D : va_G} {K : Nat → ClassId} {ad : Nat → Nat} {M : Mem}
variable {y : MethodName} {bytes cc : ByteArray} {maxL nL n index fr lo : Nat} {ret : Option FieldType} {ws : List Cond} {Ts : List Cond} {own C : String} {As : List Value} {j : Nat}
theorem vF_in {hS : va_S (vF ad s.heap.size) s.heap H locs} : ∀ q, vF ad H.size q → vF ad s.heap.size q := fun q h => h.imp id (fun r => Nat.le_trans hS.1 r)
/-- invokevirtual, an int comes -/
theorem vcV {post : Int32 → Mem → Prop} (S : CallFix p m c cc nL s args Ts own) (hM : Ci l D K ad y ws fr lo (.ref (ad j) :: As) M post) (cw : CallW R s args own C index y bytes maxL ret ws ({ frames := fr, cells := 0, slots := 0, locals := lo }) 0 0 n) (hK : va_K D vwCl (tyA K) s) (hP : va_P D vwCl (VM K ad M) H) (hS : va_S (vF ad s.heap.size) s.heap H locs) {ci : Nat} {cq : vw_C} (hj : j < NS) (hd : kd j = ci) (hci : ci < 8) (hc : vwCl[ci]? = some cq) (hC : cq.1 = C)
    (hn : As.length = n) (hl : ls.size = nL) (hroom : (rest.map fun v => v.category).sum ≤ 8) (hcl : cells ≤ R.cells) (hsl : slots ≤ R.slots) (hdg : decode cc pc = .ok (.invokevirtual index, 3))
    (kk : ∀ (r : Int32) (u : Mem) (H1 : Heap) (locs1 : List Loc), post r u → va_P D vwCl (VM K ad u) H1 → va_S (vF ad s.heap.size) s.heap H1 locs1 → W p l e R s m args below meth c H1 locs1 cells slots Q (F0 m (pc + 3) ls (.int r :: rest))) {st : List Value} (hst : st = As.reverse ++ .ref (ad j) :: rest) : W p l e R s m args below meth c H locs cells slots Q (F0 m pc ls st) := by
  subst hst
  subst hC
  refine va_calli (va_runV (As := As) (rest := rest) S (hM H.size) cw ⟨vP_blind, va_recv hK hP (ci := ci) (q0 := j) hc (VWo hj hd hci), fun U hU hW => ⟨rfl, by rw [hU], by rw [hU]; exact hP, va_K.moved hW.alike hK⟩⟩ rfl hn hl rfl (lv_room hroom) hdg ⟨hcl, hsl⟩) hS (fun q _ h => vF_in (hS := hS) q h) (vF_in (hS := hS)) (fun r u t H1 locs1 ht hvm hw hB hz1 hk1 hS1 => ?_)
  obtain ⟨hP1, hK1⟩ := hB
  rw [ht] at hP1
  exact kk r u H1 locs1 hw hP1 hS1
/-- invokevirtual, nothing comes -/
theorem vcVv {post : Mem → Prop} (S : CallFix p m c cc nL s args Ts own) (hM : Cv l D K ad y ws fr lo (.ref (ad j) :: As) M post) (cw : CallW R s args own C index y bytes maxL ret ws ({ frames := fr, cells := 0, slots := 0, locals := lo }) 0 0 n) (hK : va_K D vwCl (tyA K) s) (hP : va_P D vwCl (VM K ad M) H) (hS : va_S (vF ad s.heap.size) s.heap H locs) {ci : Nat} {cq : vw_C} (hj : j < NS) (hd : kd j = ci) (hci : ci < 8) (hc : vwCl[ci]? = some cq) (hC : cq.1 = C)
    (hn : As.length = n) (hl : ls.size = nL) (hroom : (rest.map fun v => v.category).sum ≤ 8) (hcl : cells ≤ R.cells) (hsl : slots ≤ R.slots) (hdg : decode cc pc = .ok (.invokevirtual index, 3))
    (kk : ∀ (u : Mem) (H1 : Heap) (locs1 : List Loc), post u → va_P D vwCl (VM K ad u) H1 → va_S (vF ad s.heap.size) s.heap H1 locs1 → W p l e R s m args below meth c H1 locs1 cells slots Q (F0 m (pc + 3) ls rest)) {st : List Value} (hst : st = As.reverse ++ .ref (ad j) :: rest) : W p l e R s m args below meth c H locs cells slots Q (F0 m pc ls st) := by
  subst hst
  subst hC
  refine va_callv (va_runV (As := As) (rest := rest) S (hM H.size) cw ⟨vP_blind, va_recv hK hP (ci := ci) (q0 := j) hc (VWo hj hd hci), fun U hU hW => ⟨rfl, by rw [hU], by rw [hU]; exact hP, va_K.moved hW.alike hK⟩⟩ rfl hn hl rfl (lv_room hroom) hdg ⟨hcl, hsl⟩) hS (fun q _ h => vF_in (hS := hS) q h) (vF_in (hS := hS)) (fun u t H1 locs1 ht hvm hw hB hz1 hk1 hS1 => ?_)
  obtain ⟨hP1, hK1⟩ := hB
  rw [ht] at hP1
  exact kk u H1 locs1 hw hP1 hS1
/-- invokestatic, an int comes -/
theorem vcS {post : Int32 → Mem → Prop} (S : CallFix p m c cc nL s args Ts own) (hM : Ci l D K ad y ws fr lo As M post) (cw : CallB R s args own index y bytes maxL ret ws ({ frames := fr, cells := 0, slots := 0, locals := lo }) 0 0 n ∧ (Cond.static y).before args s = true) (hK : va_K D vwCl (tyA K) s) (hP : va_P D vwCl (VM K ad M) H) (hS : va_S (vF ad s.heap.size) s.heap H locs)
    (hn : As.length = n) (hl : ls.size = nL) (hroom : (rest.map fun v => v.category).sum ≤ 8) (hcl : cells ≤ R.cells) (hsl : slots ≤ R.slots) (hdg : decode cc pc = .ok (.invokestatic index, 3))
    (kk : ∀ (r : Int32) (u : Mem) (H1 : Heap) (locs1 : List Loc), post r u → va_P D vwCl (VM K ad u) H1 → va_S (vF ad s.heap.size) s.heap H1 locs1 → W p l e R s m args below meth c H1 locs1 cells slots Q (F0 m (pc + 3) ls (.int r :: rest))) {st : List Value} (hst : st = As.reverse ++ rest) : W p l e R s m args below meth c H locs cells slots Q (F0 m pc ls st) := by
  subst hst
  refine va_calli (va_runS (As := As) (rest := rest) S (hM H.size) cw ⟨vP_blind, fun U hU hW => ⟨rfl, by rw [hU], by rw [hU]; exact hP, va_K.moved hW.alike hK⟩⟩ rfl hn hl rfl (lv_room hroom) hdg ⟨hcl, hsl⟩) hS (fun q _ h => vF_in (hS := hS) q h) (vF_in (hS := hS)) (fun r u t H1 locs1 ht hvm hw hB hz1 hk1 hS1 => ?_)
  obtain ⟨hP1, hK1⟩ := hB
  rw [ht] at hP1
  exact kk r u H1 locs1 hw hP1 hS1
/-- invokestatic, nothing comes -/
theorem vcSv {post : Mem → Prop} (S : CallFix p m c cc nL s args Ts own) (hM : Cv l D K ad y ws fr lo As M post) (cw : CallB R s args own index y bytes maxL ret ws ({ frames := fr, cells := 0, slots := 0, locals := lo }) 0 0 n ∧ (Cond.static y).before args s = true) (hK : va_K D vwCl (tyA K) s) (hP : va_P D vwCl (VM K ad M) H) (hS : va_S (vF ad s.heap.size) s.heap H locs)
    (hn : As.length = n) (hl : ls.size = nL) (hroom : (rest.map fun v => v.category).sum ≤ 8) (hcl : cells ≤ R.cells) (hsl : slots ≤ R.slots) (hdg : decode cc pc = .ok (.invokestatic index, 3))
    (kk : ∀ (u : Mem) (H1 : Heap) (locs1 : List Loc), post u → va_P D vwCl (VM K ad u) H1 → va_S (vF ad s.heap.size) s.heap H1 locs1 → W p l e R s m args below meth c H1 locs1 cells slots Q (F0 m (pc + 3) ls rest)) {st : List Value} (hst : st = As.reverse ++ rest) : W p l e R s m args below meth c H locs cells slots Q (F0 m pc ls st) := by
  subst hst
  refine va_callv (va_runS (As := As) (rest := rest) S (hM H.size) cw ⟨vP_blind, fun U hU hW => ⟨rfl, by rw [hU], by rw [hU]; exact hP, va_K.moved hW.alike hK⟩⟩ rfl hn hl rfl (lv_room hroom) hdg ⟨hcl, hsl⟩) hS (fun q _ h => vF_in (hS := hS) q h) (vF_in (hS := hS)) (fun u t H1 locs1 ht hvm hw hB hz1 hk1 hS1 => ?_)
  obtain ⟨hP1, hK1⟩ := hB
  rw [ht] at hP1
  exact kk u H1 locs1 hw hP1 hS1
end VMC

/-! part 22.zrows -/
theorem dX2_add_0 : decode cX2_add 0 = .ok (.aload_n 0, 1) := by decide +kernel
theorem dX2_add_1 : decode cX2_add 1 = .ok (.getfield 21, 3) := by decide +kernel
theorem dX2_add_4 : decode cX2_add 4 = .ok (.aload_n 0, 1) := by decide +kernel
theorem dX2_add_5 : decode cX2_add 5 = .ok (.getfield 18, 3) := by decide +kernel
theorem dX2_add_8 : decode cX2_add 8 = .ok (.iload_n 1, 1) := by decide +kernel
theorem dX2_add_9 : decode cX2_add 9 = .ok (.iastore, 1) := by decide +kernel
theorem dX2_add_10 : decode cX2_add 10 = .ok (.aload_n 0, 1) := by decide +kernel
theorem dX2_add_11 : decode cX2_add 11 = .ok (.getfield 25, 3) := by decide +kernel
theorem dX2_add_14 : decode cX2_add 14 = .ok (.aload_n 0, 1) := by decide +kernel
theorem dX2_add_15 : decode cX2_add 15 = .ok (.getfield 18, 3) := by decide +kernel
theorem dX2_add_18 : decode cX2_add 18 = .ok (.iload_n 2, 1) := by decide +kernel
theorem dX2_add_19 : decode cX2_add 19 = .ok (.iastore, 1) := by decide +kernel
theorem dX2_add_20 : decode cX2_add 20 = .ok (.aload_n 0, 1) := by decide +kernel
theorem dX2_add_21 : decode cX2_add 21 = .ok (.getfield 28, 3) := by decide +kernel
theorem dX2_add_24 : decode cX2_add 24 = .ok (.iload_n 1, 1) := by decide +kernel
theorem dX2_add_25 : decode cX2_add 25 = .ok (.iconst 1, 1) := by decide +kernel
theorem dX2_add_26 : decode cX2_add 26 = .ok (.bastore, 1) := by decide +kernel
theorem dX2_add_27 : decode cX2_add 27 = .ok (.aload_n 0, 1) := by decide +kernel
theorem dX2_add_28 : decode cX2_add 28 = .ok (.getfield 32, 3) := by decide +kernel
theorem dX2_add_31 : decode cX2_add 31 = .ok (.iload_n 1, 1) := by decide +kernel
theorem dX2_add_32 : decode cX2_add 32 = .ok (.iload_n 2, 1) := by decide +kernel
theorem dX2_add_33 : decode cX2_add 33 = .ok (.iastore, 1) := by decide +kernel
theorem dX2_add_34 : decode cX2_add 34 = .ok (.aload_n 0, 1) := by decide +kernel
theorem dX2_add_35 : decode cX2_add 35 = .ok (.dup, 1) := by decide +kernel
theorem dX2_add_36 : decode cX2_add 36 = .ok (.getfield 18, 3) := by decide +kernel
theorem dX2_add_39 : decode cX2_add 39 = .ok (.iconst 1, 1) := by decide +kernel
theorem dX2_add_40 : decode cX2_add 40 = .ok (.iadd, 1) := by decide +kernel
theorem dX2_add_41 : decode cX2_add 41 = .ok (.putfield 18, 3) := by decide +kernel
theorem dX2_add_44 : decode cX2_add 44 = .ok (.return_, 1) := by decide +kernel
theorem dX2_tell_0 : decode cX2_tell 0 = .ok (.iload_n 1, 1) := by decide +kernel
theorem dX2_tell_1 : decode cX2_tell 1 = .ok (.iconst 2, 1) := by decide +kernel
theorem dX2_tell_2 : decode cX2_tell 2 = .ok (.if_icmp .ne 8, 3) := by decide +kernel
theorem dX2_tell_5 : decode cX2_tell 5 = .ok (.aload_n 0, 1) := by decide +kernel
theorem dX2_tell_6 : decode cX2_tell 6 = .ok (.getfield 9, 3) := by decide +kernel
theorem dX2_tell_9 : decode cX2_tell 9 = .ok (.ireturn, 1) := by decide +kernel
theorem dX2_tell_10 : decode cX2_tell 10 = .ok (.iload_n 1, 1) := by decide +kernel
theorem dX2_tell_11 : decode cX2_tell 11 = .ok (.iconst 3, 1) := by decide +kernel
theorem dX2_tell_12 : decode cX2_tell 12 = .ok (.if_icmp .ne 10, 3) := by decide +kernel
theorem dX2_tell_15 : decode cX2_tell 15 = .ok (.aload_n 0, 1) := by decide +kernel
theorem dX2_tell_16 : decode cX2_tell 16 = .ok (.getfield 15, 3) := by decide +kernel
theorem dX2_tell_19 : decode cX2_tell 19 = .ok (.goto 7, 3) := by decide +kernel
theorem dX2_tell_22 : decode cX2_tell 22 = .ok (.aload_n 0, 1) := by decide +kernel
theorem dX2_tell_23 : decode cX2_tell 23 = .ok (.getfield 18, 3) := by decide +kernel
theorem dX2_tell_26 : decode cX2_tell 26 = .ok (.ireturn, 1) := by decide +kernel
set_option maxRecDepth 20000 in
theorem ggX2_isBroken_X2_isOverloaded : GoodIn wsX2_isBroken wsX2_isOverloaded := goodIn_g _ [(11, 6), (5, 1), (17, 1), (2, 1), (41, 7)] rfl (by decide +kernel)
set_option maxRecDepth 20000 in
theorem gX2_isBroken_X2_isOverloaded : GoodIn wsX2_isBroken (wsV RX2 35 RX2 yX2_isOverloaded wsX2_isOverloaded) := goodIn_app (goodIn_of _ (by decide +kernel)) ggX2_isBroken_X2_isOverloaded
set_option maxRecDepth 20000 in
theorem ggX2_isBroken_X2_leastSum : GoodIn wsX2_isBroken wsX2_leastSum := goodIn_g _ [(21, 1), (12, 5), (5, 1), (17, 1), (41, 7)] rfl (by decide +kernel)
set_option maxRecDepth 20000 in
theorem gX2_isBroken_X2_leastSum : GoodIn wsX2_isBroken (wsV RX2 39 RX2 yX2_leastSum wsX2_leastSum) := goodIn_app (goodIn_of _ (by decide +kernel)) ggX2_isBroken_X2_leastSum
set_option maxRecDepth 20000 in
theorem ggX2_isBroken_X2_greatestSum : GoodIn wsX2_isBroken wsX2_greatestSum := goodIn_g _ [(25, 1), (12, 3), (3, 4), (41, 7)] rfl (by decide +kernel)
set_option maxRecDepth 20000 in
theorem gX2_isBroken_X2_greatestSum : GoodIn wsX2_isBroken (wsV RX2 43 RX2 yX2_greatestSum wsX2_greatestSum) := goodIn_app (goodIn_of _ (by decide +kernel)) ggX2_isBroken_X2_greatestSum
set_option maxRecDepth 20000 in
theorem ggX2_isBroken_X2_hasNear : GoodIn wsX2_isBroken wsX2_hasNear := goodIn_g _ [(29, 1), (12, 2), (30, 2), (5, 1), (32, 1), (41, 7)] rfl (by decide +kernel)
set_option maxRecDepth 20000 in
theorem gX2_isBroken_X2_hasNear : GoodIn wsX2_isBroken (wsV RX2 46 RX2 yX2_hasNear wsX2_hasNear) := goodIn_app (goodIn_of _ (by decide +kernel)) ggX2_isBroken_X2_hasNear
set_option maxRecDepth 20000 in
theorem ggX2_isBroken_X2_hasStepBelow : GoodIn wsX2_isBroken wsX2_hasStepBelow := goodIn_g _ [(36, 1), (12, 2), (2, 1), (41, 7)] rfl (by decide +kernel)
set_option maxRecDepth 20000 in
theorem gX2_isBroken_X2_hasStepBelow : GoodIn wsX2_isBroken (wsV RX2 56 RX2 yX2_hasStepBelow wsX2_hasStepBelow) := goodIn_app (goodIn_of _ (by decide +kernel)) ggX2_isBroken_X2_hasStepBelow
set_option maxRecDepth 20000 in
theorem ggX2_isBroken_X2_willing : GoodIn wsX2_isBroken wsX2_willing := goodIn_g _ [(40, 1), (12, 3), (41, 7)] rfl (by decide +kernel)
set_option maxRecDepth 20000 in
theorem gX2_isBroken_X2_willing : GoodIn wsX2_isBroken (wsV RX2 59 RX2 yX2_willing wsX2_willing) := goodIn_app (goodIn_of _ (by decide +kernel)) ggX2_isBroken_X2_willing
theorem dX2_isBroken_0 : decode cX2_isBroken 0 = .ok (.aload_n 0, 1) := by decide +kernel
theorem dX2_isBroken_1 : decode cX2_isBroken 1 = .ok (.getfield 9, 3) := by decide +kernel
theorem dX2_isBroken_4 : decode cX2_isBroken 4 = .ok (.tableswitch 169 0 7 #[48, 54, 73, 92, 124, 131, 145, 151], 48) := by decide +kernel
theorem dX2_isBroken_52 : decode cX2_isBroken 52 = .ok (.aload_n 0, 1) := by decide +kernel
theorem dX2_isBroken_53 : decode cX2_isBroken 53 = .ok (.aload_n 1, 1) := by decide +kernel
theorem dX2_isBroken_54 : decode cX2_isBroken 54 = .ok (.invokevirtual 35, 3) := by decide +kernel
theorem dX2_isBroken_57 : decode cX2_isBroken 57 = .ok (.ireturn, 1) := by decide +kernel
theorem dX2_isBroken_58 : decode cX2_isBroken 58 = .ok (.aload_n 0, 1) := by decide +kernel
theorem dX2_isBroken_59 : decode cX2_isBroken 59 = .ok (.aload_n 1, 1) := by decide +kernel
theorem dX2_isBroken_60 : decode cX2_isBroken 60 = .ok (.aload_n 2, 1) := by decide +kernel
theorem dX2_isBroken_61 : decode cX2_isBroken 61 = .ok (.invokevirtual 39, 3) := by decide +kernel
theorem dX2_isBroken_64 : decode cX2_isBroken 64 = .ok (.aload_n 0, 1) := by decide +kernel
theorem dX2_isBroken_65 : decode cX2_isBroken 65 = .ok (.getfield 15, 3) := by decide +kernel
theorem dX2_isBroken_68 : decode cX2_isBroken 68 = .ok (.if_icmp .le 7, 3) := by decide +kernel
theorem dX2_isBroken_71 : decode cX2_isBroken 71 = .ok (.iconst 1, 1) := by decide +kernel
theorem dX2_isBroken_72 : decode cX2_isBroken 72 = .ok (.goto 4, 3) := by decide +kernel
theorem dX2_isBroken_75 : decode cX2_isBroken 75 = .ok (.iconst 0, 1) := by decide +kernel
theorem dX2_isBroken_76 : decode cX2_isBroken 76 = .ok (.ireturn, 1) := by decide +kernel
theorem dX2_isBroken_77 : decode cX2_isBroken 77 = .ok (.aload_n 0, 1) := by decide +kernel
theorem dX2_isBroken_78 : decode cX2_isBroken 78 = .ok (.aload_n 1, 1) := by decide +kernel
theorem dX2_isBroken_79 : decode cX2_isBroken 79 = .ok (.aload_n 2, 1) := by decide +kernel
theorem dX2_isBroken_80 : decode cX2_isBroken 80 = .ok (.invokevirtual 43, 3) := by decide +kernel
theorem dX2_isBroken_83 : decode cX2_isBroken 83 = .ok (.aload_n 0, 1) := by decide +kernel
theorem dX2_isBroken_84 : decode cX2_isBroken 84 = .ok (.getfield 15, 3) := by decide +kernel
theorem dX2_isBroken_87 : decode cX2_isBroken 87 = .ok (.if_icmp .ge 7, 3) := by decide +kernel
theorem dX2_isBroken_90 : decode cX2_isBroken 90 = .ok (.iconst 1, 1) := by decide +kernel
theorem dX2_isBroken_91 : decode cX2_isBroken 91 = .ok (.goto 4, 3) := by decide +kernel
theorem dX2_isBroken_94 : decode cX2_isBroken 94 = .ok (.iconst 0, 1) := by decide +kernel
theorem dX2_isBroken_95 : decode cX2_isBroken 95 = .ok (.ireturn, 1) := by decide +kernel
theorem dX2_isBroken_96 : decode cX2_isBroken 96 = .ok (.aload_n 0, 1) := by decide +kernel
theorem dX2_isBroken_97 : decode cX2_isBroken 97 = .ok (.aload_n 1, 1) := by decide +kernel
theorem dX2_isBroken_98 : decode cX2_isBroken 98 = .ok (.aload_n 2, 1) := by decide +kernel
theorem dX2_isBroken_99 : decode cX2_isBroken 99 = .ok (.invokevirtual 39, 3) := by decide +kernel
theorem dX2_isBroken_102 : decode cX2_isBroken 102 = .ok (.aload_n 0, 1) := by decide +kernel
theorem dX2_isBroken_103 : decode cX2_isBroken 103 = .ok (.getfield 15, 3) := by decide +kernel
theorem dX2_isBroken_106 : decode cX2_isBroken 106 = .ok (.if_icmp .gt 16, 3) := by decide +kernel
theorem dX2_isBroken_109 : decode cX2_isBroken 109 = .ok (.aload_n 0, 1) := by decide +kernel
theorem dX2_isBroken_110 : decode cX2_isBroken 110 = .ok (.aload_n 1, 1) := by decide +kernel
theorem dX2_isBroken_111 : decode cX2_isBroken 111 = .ok (.aload_n 2, 1) := by decide +kernel
theorem dX2_isBroken_112 : decode cX2_isBroken 112 = .ok (.invokevirtual 43, 3) := by decide +kernel
theorem dX2_isBroken_115 : decode cX2_isBroken 115 = .ok (.aload_n 0, 1) := by decide +kernel
theorem dX2_isBroken_116 : decode cX2_isBroken 116 = .ok (.getfield 15, 3) := by decide +kernel
theorem dX2_isBroken_119 : decode cX2_isBroken 119 = .ok (.if_icmp .ge 7, 3) := by decide +kernel
theorem dX2_isBroken_122 : decode cX2_isBroken 122 = .ok (.iconst 1, 1) := by decide +kernel
theorem dX2_isBroken_123 : decode cX2_isBroken 123 = .ok (.goto 4, 3) := by decide +kernel
theorem dX2_isBroken_126 : decode cX2_isBroken 126 = .ok (.iconst 0, 1) := by decide +kernel
theorem dX2_isBroken_127 : decode cX2_isBroken 127 = .ok (.ireturn, 1) := by decide +kernel
theorem dX2_isBroken_128 : decode cX2_isBroken 128 = .ok (.aload_n 0, 1) := by decide +kernel
theorem dX2_isBroken_129 : decode cX2_isBroken 129 = .ok (.aload_n 1, 1) := by decide +kernel
theorem dX2_isBroken_130 : decode cX2_isBroken 130 = .ok (.iconst 1, 1) := by decide +kernel
theorem dX2_isBroken_131 : decode cX2_isBroken 131 = .ok (.invokevirtual 46, 3) := by decide +kernel
theorem dX2_isBroken_134 : decode cX2_isBroken 134 = .ok (.ireturn, 1) := by decide +kernel
theorem dX2_isBroken_135 : decode cX2_isBroken 135 = .ok (.aload_n 0, 1) := by decide +kernel
theorem dX2_isBroken_136 : decode cX2_isBroken 136 = .ok (.aload_n 1, 1) := by decide +kernel
theorem dX2_isBroken_137 : decode cX2_isBroken 137 = .ok (.iconst 1, 1) := by decide +kernel
theorem dX2_isBroken_138 : decode cX2_isBroken 138 = .ok (.aload_n 0, 1) := by decide +kernel
theorem dX2_isBroken_139 : decode cX2_isBroken 139 = .ok (.getfield 15, 3) := by decide +kernel
theorem dX2_isBroken_142 : decode cX2_isBroken 142 = .ok (.invokestatic 50, 3) := by decide +kernel
theorem dX2_isBroken_145 : decode cX2_isBroken 145 = .ok (.invokevirtual 46, 3) := by decide +kernel
theorem dX2_isBroken_148 : decode cX2_isBroken 148 = .ok (.ireturn, 1) := by decide +kernel
theorem dX2_isBroken_149 : decode cX2_isBroken 149 = .ok (.aload_n 0, 1) := by decide +kernel
theorem dX2_isBroken_150 : decode cX2_isBroken 150 = .ok (.aload_n 1, 1) := by decide +kernel
theorem dX2_isBroken_151 : decode cX2_isBroken 151 = .ok (.invokevirtual 56, 3) := by decide +kernel
theorem dX2_isBroken_154 : decode cX2_isBroken 154 = .ok (.ireturn, 1) := by decide +kernel
theorem dX2_isBroken_155 : decode cX2_isBroken 155 = .ok (.aload_n 0, 1) := by decide +kernel
theorem dX2_isBroken_156 : decode cX2_isBroken 156 = .ok (.aload_n 1, 1) := by decide +kernel
theorem dX2_isBroken_157 : decode cX2_isBroken 157 = .ok (.invokevirtual 59, 3) := by decide +kernel
theorem dX2_isBroken_160 : decode cX2_isBroken 160 = .ok (.aload_n 0, 1) := by decide +kernel
theorem dX2_isBroken_161 : decode cX2_isBroken 161 = .ok (.getfield 15, 3) := by decide +kernel
theorem dX2_isBroken_164 : decode cX2_isBroken 164 = .ok (.if_icmp .ge 7, 3) := by decide +kernel
theorem dX2_isBroken_167 : decode cX2_isBroken 167 = .ok (.iconst 1, 1) := by decide +kernel
theorem dX2_isBroken_168 : decode cX2_isBroken 168 = .ok (.goto 4, 3) := by decide +kernel
theorem dX2_isBroken_171 : decode cX2_isBroken 171 = .ok (.iconst 0, 1) := by decide +kernel
theorem dX2_isBroken_172 : decode cX2_isBroken 172 = .ok (.ireturn, 1) := by decide +kernel
theorem dX2_isBroken_173 : decode cX2_isBroken 173 = .ok (.iconst 0, 1) := by decide +kernel
theorem dX2_isBroken_174 : decode cX2_isBroken 174 = .ok (.ireturn, 1) := by decide +kernel
theorem dX2_isOverloaded_0 : decode cX2_isOverloaded 0 = .ok (.iconst 0, 1) := by decide +kernel
theorem dX2_isOverloaded_1 : decode cX2_isOverloaded 1 = .ok (.istore_n 2, 1) := by decide +kernel
theorem dX2_isOverloaded_2 : decode cX2_isOverloaded 2 = .ok (.iconst 0, 1) := by decide +kernel
theorem dX2_isOverloaded_3 : decode cX2_isOverloaded 3 = .ok (.istore_n 3, 1) := by decide +kernel
theorem dX2_isOverloaded_4 : decode cX2_isOverloaded 4 = .ok (.iload_n 3, 1) := by decide +kernel
theorem dX2_isOverloaded_5 : decode cX2_isOverloaded 5 = .ok (.aload_n 0, 1) := by decide +kernel
theorem dX2_isOverloaded_6 : decode cX2_isOverloaded 6 = .ok (.getfield 18, 3) := by decide +kernel
theorem dX2_isOverloaded_9 : decode cX2_isOverloaded 9 = .ok (.if_icmp .ge 34, 3) := by decide +kernel
theorem dX2_isOverloaded_12 : decode cX2_isOverloaded 12 = .ok (.aload_n 1, 1) := by decide +kernel
theorem dX2_isOverloaded_13 : decode cX2_isOverloaded 13 = .ok (.aload_n 0, 1) := by decide +kernel
theorem dX2_isOverloaded_14 : decode cX2_isOverloaded 14 = .ok (.getfield 21, 3) := by decide +kernel
theorem dX2_isOverloaded_17 : decode cX2_isOverloaded 17 = .ok (.iload_n 3, 1) := by decide +kernel
theorem dX2_isOverloaded_18 : decode cX2_isOverloaded 18 = .ok (.iaload, 1) := by decide +kernel
theorem dX2_isOverloaded_19 : decode cX2_isOverloaded 19 = .ok (.iaload, 1) := by decide +kernel
theorem dX2_isOverloaded_20 : decode cX2_isOverloaded 20 = .ok (.iconst (-1), 1) := by decide +kernel
theorem dX2_isOverloaded_21 : decode cX2_isOverloaded 21 = .ok (.if_icmp .ne 16, 3) := by decide +kernel
theorem dX2_isOverloaded_24 : decode cX2_isOverloaded 24 = .ok (.iload_n 2, 1) := by decide +kernel
theorem dX2_isOverloaded_25 : decode cX2_isOverloaded 25 = .ok (.iconst 0, 1) := by decide +kernel
theorem dX2_isOverloaded_26 : decode cX2_isOverloaded 26 = .ok (.aload_n 0, 1) := by decide +kernel
theorem dX2_isOverloaded_27 : decode cX2_isOverloaded 27 = .ok (.getfield 25, 3) := by decide +kernel
theorem dX2_isOverloaded_30 : decode cX2_isOverloaded 30 = .ok (.iload_n 3, 1) := by decide +kernel
theorem dX2_isOverloaded_31 : decode cX2_isOverloaded 31 = .ok (.iaload, 1) := by decide +kernel
theorem dX2_isOverloaded_32 : decode cX2_isOverloaded 32 = .ok (.invokestatic 63, 3) := by decide +kernel
theorem dX2_isOverloaded_35 : decode cX2_isOverloaded 35 = .ok (.iadd, 1) := by decide +kernel
theorem dX2_isOverloaded_36 : decode cX2_isOverloaded 36 = .ok (.istore_n 2, 1) := by decide +kernel
theorem dX2_isOverloaded_37 : decode cX2_isOverloaded 37 = .ok (.iinc 3 1, 3) := by decide +kernel
theorem dX2_isOverloaded_40 : decode cX2_isOverloaded 40 = .ok (.goto (-36), 3) := by decide +kernel
theorem dX2_isOverloaded_43 : decode cX2_isOverloaded 43 = .ok (.iconst 0, 1) := by decide +kernel
theorem dX2_isOverloaded_44 : decode cX2_isOverloaded 44 = .ok (.istore_n 3, 1) := by decide +kernel
theorem dX2_isOverloaded_45 : decode cX2_isOverloaded 45 = .ok (.iload_n 3, 1) := by decide +kernel
theorem dX2_isOverloaded_46 : decode cX2_isOverloaded 46 = .ok (.bipush 6, 2) := by decide +kernel
theorem dX2_isOverloaded_48 : decode cX2_isOverloaded 48 = .ok (.if_icmp .ge 66, 3) := by decide +kernel
theorem dX2_isOverloaded_51 : decode cX2_isOverloaded 51 = .ok (.iload_n 2, 1) := by decide +kernel
theorem dX2_isOverloaded_52 : decode cX2_isOverloaded 52 = .ok (.istore 4, 2) := by decide +kernel
theorem dX2_isOverloaded_54 : decode cX2_isOverloaded 54 = .ok (.iconst 0, 1) := by decide +kernel
theorem dX2_isOverloaded_55 : decode cX2_isOverloaded 55 = .ok (.istore 5, 2) := by decide +kernel
theorem dX2_isOverloaded_57 : decode cX2_isOverloaded 57 = .ok (.iload 5, 2) := by decide +kernel
theorem dX2_isOverloaded_59 : decode cX2_isOverloaded 59 = .ok (.aload_n 0, 1) := by decide +kernel
theorem dX2_isOverloaded_60 : decode cX2_isOverloaded 60 = .ok (.getfield 18, 3) := by decide +kernel
theorem dX2_isOverloaded_63 : decode cX2_isOverloaded 63 = .ok (.if_icmp .ge 34, 3) := by decide +kernel
theorem dX2_isOverloaded_66 : decode cX2_isOverloaded 66 = .ok (.aload_n 1, 1) := by decide +kernel
theorem dX2_isOverloaded_67 : decode cX2_isOverloaded 67 = .ok (.aload_n 0, 1) := by decide +kernel
theorem dX2_isOverloaded_68 : decode cX2_isOverloaded 68 = .ok (.getfield 21, 3) := by decide +kernel
theorem dX2_isOverloaded_71 : decode cX2_isOverloaded 71 = .ok (.iload 5, 2) := by decide +kernel
theorem dX2_isOverloaded_73 : decode cX2_isOverloaded 73 = .ok (.iaload, 1) := by decide +kernel
theorem dX2_isOverloaded_74 : decode cX2_isOverloaded 74 = .ok (.iaload, 1) := by decide +kernel
theorem dX2_isOverloaded_75 : decode cX2_isOverloaded 75 = .ok (.iload_n 3, 1) := by decide +kernel
theorem dX2_isOverloaded_76 : decode cX2_isOverloaded 76 = .ok (.if_icmp .ne 15, 3) := by decide +kernel
theorem dX2_isOverloaded_79 : decode cX2_isOverloaded 79 = .ok (.iload 4, 2) := by decide +kernel
theorem dX2_isOverloaded_81 : decode cX2_isOverloaded 81 = .ok (.aload_n 0, 1) := by decide +kernel
theorem dX2_isOverloaded_82 : decode cX2_isOverloaded 82 = .ok (.getfield 25, 3) := by decide +kernel
theorem dX2_isOverloaded_85 : decode cX2_isOverloaded 85 = .ok (.iload 5, 2) := by decide +kernel
theorem dX2_isOverloaded_87 : decode cX2_isOverloaded 87 = .ok (.iaload, 1) := by decide +kernel
theorem dX2_isOverloaded_88 : decode cX2_isOverloaded 88 = .ok (.iadd, 1) := by decide +kernel
theorem dX2_isOverloaded_89 : decode cX2_isOverloaded 89 = .ok (.istore 4, 2) := by decide +kernel
theorem dX2_isOverloaded_91 : decode cX2_isOverloaded 91 = .ok (.iinc 5 1, 3) := by decide +kernel
theorem dX2_isOverloaded_94 : decode cX2_isOverloaded 94 = .ok (.goto (-37), 3) := by decide +kernel
theorem dX2_isOverloaded_97 : decode cX2_isOverloaded 97 = .ok (.iload 4, 2) := by decide +kernel
theorem dX2_isOverloaded_99 : decode cX2_isOverloaded 99 = .ok (.aload_n 0, 1) := by decide +kernel
theorem dX2_isOverloaded_100 : decode cX2_isOverloaded 100 = .ok (.getfield 15, 3) := by decide +kernel
theorem dX2_isOverloaded_103 : decode cX2_isOverloaded 103 = .ok (.if_icmp .le 5, 3) := by decide +kernel
theorem dX2_isOverloaded_106 : decode cX2_isOverloaded 106 = .ok (.iconst 1, 1) := by decide +kernel
theorem dX2_isOverloaded_107 : decode cX2_isOverloaded 107 = .ok (.ireturn, 1) := by decide +kernel
theorem dX2_isOverloaded_108 : decode cX2_isOverloaded 108 = .ok (.iinc 3 1, 3) := by decide +kernel
theorem dX2_isOverloaded_111 : decode cX2_isOverloaded 111 = .ok (.goto (-66), 3) := by decide +kernel
theorem dX2_isOverloaded_114 : decode cX2_isOverloaded 114 = .ok (.iconst 0, 1) := by decide +kernel
theorem dX2_isOverloaded_115 : decode cX2_isOverloaded 115 = .ok (.ireturn, 1) := by decide +kernel
theorem dX2_leastSum_0 : decode cX2_leastSum 0 = .ok (.iconst 0, 1) := by decide +kernel
theorem dX2_leastSum_1 : decode cX2_leastSum 1 = .ok (.istore_n 3, 1) := by decide +kernel
theorem dX2_leastSum_2 : decode cX2_leastSum 2 = .ok (.iconst 0, 1) := by decide +kernel
theorem dX2_leastSum_3 : decode cX2_leastSum 3 = .ok (.istore 4, 2) := by decide +kernel
theorem dX2_leastSum_5 : decode cX2_leastSum 5 = .ok (.iload 4, 2) := by decide +kernel
theorem dX2_leastSum_7 : decode cX2_leastSum 7 = .ok (.aload_n 0, 1) := by decide +kernel
theorem dX2_leastSum_8 : decode cX2_leastSum 8 = .ok (.getfield 18, 3) := by decide +kernel
theorem dX2_leastSum_11 : decode cX2_leastSum 11 = .ok (.if_icmp .ge 69, 3) := by decide +kernel
theorem dX2_leastSum_14 : decode cX2_leastSum 14 = .ok (.aload_n 1, 1) := by decide +kernel
theorem dX2_leastSum_15 : decode cX2_leastSum 15 = .ok (.aload_n 0, 1) := by decide +kernel
theorem dX2_leastSum_16 : decode cX2_leastSum 16 = .ok (.getfield 21, 3) := by decide +kernel
theorem dX2_leastSum_19 : decode cX2_leastSum 19 = .ok (.iload 4, 2) := by decide +kernel
theorem dX2_leastSum_21 : decode cX2_leastSum 21 = .ok (.iaload, 1) := by decide +kernel
theorem dX2_leastSum_22 : decode cX2_leastSum 22 = .ok (.iaload, 1) := by decide +kernel
theorem dX2_leastSum_23 : decode cX2_leastSum 23 = .ok (.istore 5, 2) := by decide +kernel
theorem dX2_leastSum_25 : decode cX2_leastSum 25 = .ok (.aload_n 2, 1) := by decide +kernel
theorem dX2_leastSum_26 : decode cX2_leastSum 26 = .ok (.aload_n 0, 1) := by decide +kernel
theorem dX2_leastSum_27 : decode cX2_leastSum 27 = .ok (.getfield 21, 3) := by decide +kernel
theorem dX2_leastSum_30 : decode cX2_leastSum 30 = .ok (.iload 4, 2) := by decide +kernel
theorem dX2_leastSum_32 : decode cX2_leastSum 32 = .ok (.iaload, 1) := by decide +kernel
theorem dX2_leastSum_33 : decode cX2_leastSum 33 = .ok (.iaload, 1) := by decide +kernel
theorem dX2_leastSum_34 : decode cX2_leastSum 34 = .ok (.iconst 1, 1) := by decide +kernel
theorem dX2_leastSum_35 : decode cX2_leastSum 35 = .ok (.isub, 1) := by decide +kernel
theorem dX2_leastSum_36 : decode cX2_leastSum 36 = .ok (.istore 6, 2) := by decide +kernel
theorem dX2_leastSum_38 : decode cX2_leastSum 38 = .ok (.iload_n 3, 1) := by decide +kernel
theorem dX2_leastSum_39 : decode cX2_leastSum 39 = .ok (.iload 5, 2) := by decide +kernel
theorem dX2_leastSum_41 : decode cX2_leastSum 41 = .ok (.iconst (-1), 1) := by decide +kernel
theorem dX2_leastSum_42 : decode cX2_leastSum 42 = .ok (.if_icmp .ne 20, 3) := by decide +kernel
theorem dX2_leastSum_45 : decode cX2_leastSum 45 = .ok (.iconst 0, 1) := by decide +kernel
theorem dX2_leastSum_46 : decode cX2_leastSum 46 = .ok (.aload_n 0, 1) := by decide +kernel
theorem dX2_leastSum_47 : decode cX2_leastSum 47 = .ok (.getfield 25, 3) := by decide +kernel
theorem dX2_leastSum_50 : decode cX2_leastSum 50 = .ok (.iload 4, 2) := by decide +kernel
theorem dX2_leastSum_52 : decode cX2_leastSum 52 = .ok (.iaload, 1) := by decide +kernel
theorem dX2_leastSum_53 : decode cX2_leastSum 53 = .ok (.iload 6, 2) := by decide +kernel
theorem dX2_leastSum_55 : decode cX2_leastSum 55 = .ok (.imul, 1) := by decide +kernel
theorem dX2_leastSum_56 : decode cX2_leastSum 56 = .ok (.invokestatic 63, 3) := by decide +kernel
theorem dX2_leastSum_59 : decode cX2_leastSum 59 = .ok (.goto 13, 3) := by decide +kernel
theorem dX2_leastSum_62 : decode cX2_leastSum 62 = .ok (.aload_n 0, 1) := by decide +kernel
theorem dX2_leastSum_63 : decode cX2_leastSum 63 = .ok (.getfield 25, 3) := by decide +kernel
theorem dX2_leastSum_66 : decode cX2_leastSum 66 = .ok (.iload 4, 2) := by decide +kernel
theorem dX2_leastSum_68 : decode cX2_leastSum 68 = .ok (.iaload, 1) := by decide +kernel
theorem dX2_leastSum_69 : decode cX2_leastSum 69 = .ok (.iload 5, 2) := by decide +kernel
theorem dX2_leastSum_71 : decode cX2_leastSum 71 = .ok (.imul, 1) := by decide +kernel
theorem dX2_leastSum_72 : decode cX2_leastSum 72 = .ok (.iadd, 1) := by decide +kernel
theorem dX2_leastSum_73 : decode cX2_leastSum 73 = .ok (.istore_n 3, 1) := by decide +kernel
theorem dX2_leastSum_74 : decode cX2_leastSum 74 = .ok (.iinc 4 1, 3) := by decide +kernel
theorem dX2_leastSum_77 : decode cX2_leastSum 77 = .ok (.goto (-72), 3) := by decide +kernel
theorem dX2_leastSum_80 : decode cX2_leastSum 80 = .ok (.iload_n 3, 1) := by decide +kernel
theorem dX2_leastSum_81 : decode cX2_leastSum 81 = .ok (.ireturn, 1) := by decide +kernel
theorem dX2_greatestSum_0 : decode cX2_greatestSum 0 = .ok (.iconst 0, 1) := by decide +kernel
theorem dX2_greatestSum_1 : decode cX2_greatestSum 1 = .ok (.istore_n 3, 1) := by decide +kernel
theorem dX2_greatestSum_2 : decode cX2_greatestSum 2 = .ok (.iconst 0, 1) := by decide +kernel
theorem dX2_greatestSum_3 : decode cX2_greatestSum 3 = .ok (.istore 4, 2) := by decide +kernel
theorem dX2_greatestSum_5 : decode cX2_greatestSum 5 = .ok (.iload 4, 2) := by decide +kernel
theorem dX2_greatestSum_7 : decode cX2_greatestSum 7 = .ok (.aload_n 0, 1) := by decide +kernel
theorem dX2_greatestSum_8 : decode cX2_greatestSum 8 = .ok (.getfield 18, 3) := by decide +kernel
theorem dX2_greatestSum_11 : decode cX2_greatestSum 11 = .ok (.if_icmp .ge 69, 3) := by decide +kernel
theorem dX2_greatestSum_14 : decode cX2_greatestSum 14 = .ok (.aload_n 1, 1) := by decide +kernel
theorem dX2_greatestSum_15 : decode cX2_greatestSum 15 = .ok (.aload_n 0, 1) := by decide +kernel
theorem dX2_greatestSum_16 : decode cX2_greatestSum 16 = .ok (.getfield 21, 3) := by decide +kernel
theorem dX2_greatestSum_19 : decode cX2_greatestSum 19 = .ok (.iload 4, 2) := by decide +kernel
theorem dX2_greatestSum_21 : decode cX2_greatestSum 21 = .ok (.iaload, 1) := by decide +kernel
theorem dX2_greatestSum_22 : decode cX2_greatestSum 22 = .ok (.iaload, 1) := by decide +kernel
theorem dX2_greatestSum_23 : decode cX2_greatestSum 23 = .ok (.istore 5, 2) := by decide +kernel
theorem dX2_greatestSum_25 : decode cX2_greatestSum 25 = .ok (.aload_n 2, 1) := by decide +kernel
theorem dX2_greatestSum_26 : decode cX2_greatestSum 26 = .ok (.aload_n 0, 1) := by decide +kernel
theorem dX2_greatestSum_27 : decode cX2_greatestSum 27 = .ok (.getfield 21, 3) := by decide +kernel
theorem dX2_greatestSum_30 : decode cX2_greatestSum 30 = .ok (.iload 4, 2) := by decide +kernel
theorem dX2_greatestSum_32 : decode cX2_greatestSum 32 = .ok (.iaload, 1) := by decide +kernel
theorem dX2_greatestSum_33 : decode cX2_greatestSum 33 = .ok (.iaload, 1) := by decide +kernel
theorem dX2_greatestSum_34 : decode cX2_greatestSum 34 = .ok (.iconst 1, 1) := by decide +kernel
theorem dX2_greatestSum_35 : decode cX2_greatestSum 35 = .ok (.isub, 1) := by decide +kernel
theorem dX2_greatestSum_36 : decode cX2_greatestSum 36 = .ok (.istore 6, 2) := by decide +kernel
theorem dX2_greatestSum_38 : decode cX2_greatestSum 38 = .ok (.iload_n 3, 1) := by decide +kernel
theorem dX2_greatestSum_39 : decode cX2_greatestSum 39 = .ok (.iload 5, 2) := by decide +kernel
theorem dX2_greatestSum_41 : decode cX2_greatestSum 41 = .ok (.iconst (-1), 1) := by decide +kernel
theorem dX2_greatestSum_42 : decode cX2_greatestSum 42 = .ok (.if_icmp .ne 20, 3) := by decide +kernel
theorem dX2_greatestSum_45 : decode cX2_greatestSum 45 = .ok (.iconst 0, 1) := by decide +kernel
theorem dX2_greatestSum_46 : decode cX2_greatestSum 46 = .ok (.aload_n 0, 1) := by decide +kernel
theorem dX2_greatestSum_47 : decode cX2_greatestSum 47 = .ok (.getfield 25, 3) := by decide +kernel
theorem dX2_greatestSum_50 : decode cX2_greatestSum 50 = .ok (.iload 4, 2) := by decide +kernel
theorem dX2_greatestSum_52 : decode cX2_greatestSum 52 = .ok (.iaload, 1) := by decide +kernel
theorem dX2_greatestSum_53 : decode cX2_greatestSum 53 = .ok (.iload 6, 2) := by decide +kernel
theorem dX2_greatestSum_55 : decode cX2_greatestSum 55 = .ok (.imul, 1) := by decide +kernel
theorem dX2_greatestSum_56 : decode cX2_greatestSum 56 = .ok (.invokestatic 50, 3) := by decide +kernel
theorem dX2_greatestSum_59 : decode cX2_greatestSum 59 = .ok (.goto 13, 3) := by decide +kernel
theorem dX2_greatestSum_62 : decode cX2_greatestSum 62 = .ok (.aload_n 0, 1) := by decide +kernel
theorem dX2_greatestSum_63 : decode cX2_greatestSum 63 = .ok (.getfield 25, 3) := by decide +kernel
theorem dX2_greatestSum_66 : decode cX2_greatestSum 66 = .ok (.iload 4, 2) := by decide +kernel
theorem dX2_greatestSum_68 : decode cX2_greatestSum 68 = .ok (.iaload, 1) := by decide +kernel
theorem dX2_greatestSum_69 : decode cX2_greatestSum 69 = .ok (.iload 5, 2) := by decide +kernel
theorem dX2_greatestSum_71 : decode cX2_greatestSum 71 = .ok (.imul, 1) := by decide +kernel
theorem dX2_greatestSum_72 : decode cX2_greatestSum 72 = .ok (.iadd, 1) := by decide +kernel
theorem dX2_greatestSum_73 : decode cX2_greatestSum 73 = .ok (.istore_n 3, 1) := by decide +kernel
theorem dX2_greatestSum_74 : decode cX2_greatestSum 74 = .ok (.iinc 4 1, 3) := by decide +kernel
theorem dX2_greatestSum_77 : decode cX2_greatestSum 77 = .ok (.goto (-72), 3) := by decide +kernel
theorem dX2_greatestSum_80 : decode cX2_greatestSum 80 = .ok (.iload_n 3, 1) := by decide +kernel
theorem dX2_greatestSum_81 : decode cX2_greatestSum 81 = .ok (.ireturn, 1) := by decide +kernel
theorem dX2_hasNear_0 : decode cX2_hasNear 0 = .ok (.iconst 0, 1) := by decide +kernel
theorem dX2_hasNear_1 : decode cX2_hasNear 1 = .ok (.istore_n 3, 1) := by decide +kernel
theorem dX2_hasNear_2 : decode cX2_hasNear 2 = .ok (.iload_n 3, 1) := by decide +kernel
theorem dX2_hasNear_3 : decode cX2_hasNear 3 = .ok (.aload_n 0, 1) := by decide +kernel
theorem dX2_hasNear_4 : decode cX2_hasNear 4 = .ok (.getfield 18, 3) := by decide +kernel
theorem dX2_hasNear_7 : decode cX2_hasNear 7 = .ok (.if_icmp .ge 76, 3) := by decide +kernel
theorem dX2_hasNear_10 : decode cX2_hasNear 10 = .ok (.aload_n 1, 1) := by decide +kernel
theorem dX2_hasNear_11 : decode cX2_hasNear 11 = .ok (.aload_n 0, 1) := by decide +kernel
theorem dX2_hasNear_12 : decode cX2_hasNear 12 = .ok (.getfield 21, 3) := by decide +kernel
theorem dX2_hasNear_15 : decode cX2_hasNear 15 = .ok (.iload_n 3, 1) := by decide +kernel
theorem dX2_hasNear_16 : decode cX2_hasNear 16 = .ok (.iaload, 1) := by decide +kernel
theorem dX2_hasNear_17 : decode cX2_hasNear 17 = .ok (.iaload, 1) := by decide +kernel
theorem dX2_hasNear_18 : decode cX2_hasNear 18 = .ok (.istore 4, 2) := by decide +kernel
theorem dX2_hasNear_20 : decode cX2_hasNear 20 = .ok (.iload_n 3, 1) := by decide +kernel
theorem dX2_hasNear_21 : decode cX2_hasNear 21 = .ok (.iconst 1, 1) := by decide +kernel
theorem dX2_hasNear_22 : decode cX2_hasNear 22 = .ok (.iadd, 1) := by decide +kernel
theorem dX2_hasNear_23 : decode cX2_hasNear 23 = .ok (.istore 5, 2) := by decide +kernel
theorem dX2_hasNear_25 : decode cX2_hasNear 25 = .ok (.iload 5, 2) := by decide +kernel
theorem dX2_hasNear_27 : decode cX2_hasNear 27 = .ok (.aload_n 0, 1) := by decide +kernel
theorem dX2_hasNear_28 : decode cX2_hasNear 28 = .ok (.getfield 18, 3) := by decide +kernel
theorem dX2_hasNear_31 : decode cX2_hasNear 31 = .ok (.if_icmp .ge 46, 3) := by decide +kernel
theorem dX2_hasNear_34 : decode cX2_hasNear 34 = .ok (.iload 4, 2) := by decide +kernel
theorem dX2_hasNear_36 : decode cX2_hasNear 36 = .ok (.iconst (-1), 1) := by decide +kernel
theorem dX2_hasNear_37 : decode cX2_hasNear 37 = .ok (.if_icmp .eq 40, 3) := by decide +kernel
theorem dX2_hasNear_40 : decode cX2_hasNear 40 = .ok (.aload_n 1, 1) := by decide +kernel
theorem dX2_hasNear_41 : decode cX2_hasNear 41 = .ok (.aload_n 0, 1) := by decide +kernel
theorem dX2_hasNear_42 : decode cX2_hasNear 42 = .ok (.getfield 21, 3) := by decide +kernel
theorem dX2_hasNear_45 : decode cX2_hasNear 45 = .ok (.iload 5, 2) := by decide +kernel
theorem dX2_hasNear_47 : decode cX2_hasNear 47 = .ok (.iaload, 1) := by decide +kernel
theorem dX2_hasNear_48 : decode cX2_hasNear 48 = .ok (.iaload, 1) := by decide +kernel
theorem dX2_hasNear_49 : decode cX2_hasNear 49 = .ok (.istore 6, 2) := by decide +kernel
theorem dX2_hasNear_51 : decode cX2_hasNear 51 = .ok (.iload 6, 2) := by decide +kernel
theorem dX2_hasNear_53 : decode cX2_hasNear 53 = .ok (.iconst (-1), 1) := by decide +kernel
theorem dX2_hasNear_54 : decode cX2_hasNear 54 = .ok (.if_icmp .eq 17, 3) := by decide +kernel
theorem dX2_hasNear_57 : decode cX2_hasNear 57 = .ok (.iload 4, 2) := by decide +kernel
theorem dX2_hasNear_59 : decode cX2_hasNear 59 = .ok (.iload 6, 2) := by decide +kernel
theorem dX2_hasNear_61 : decode cX2_hasNear 61 = .ok (.isub, 1) := by decide +kernel
theorem dX2_hasNear_62 : decode cX2_hasNear 62 = .ok (.invokestatic 66, 3) := by decide +kernel
theorem dX2_hasNear_65 : decode cX2_hasNear 65 = .ok (.iload_n 2, 1) := by decide +kernel
theorem dX2_hasNear_66 : decode cX2_hasNear 66 = .ok (.if_icmp .ge 5, 3) := by decide +kernel
theorem dX2_hasNear_69 : decode cX2_hasNear 69 = .ok (.iconst 1, 1) := by decide +kernel
theorem dX2_hasNear_70 : decode cX2_hasNear 70 = .ok (.ireturn, 1) := by decide +kernel
theorem dX2_hasNear_71 : decode cX2_hasNear 71 = .ok (.iinc 5 1, 3) := by decide +kernel
theorem dX2_hasNear_74 : decode cX2_hasNear 74 = .ok (.goto (-49), 3) := by decide +kernel
theorem dX2_hasNear_77 : decode cX2_hasNear 77 = .ok (.iinc 3 1, 3) := by decide +kernel
theorem dX2_hasNear_80 : decode cX2_hasNear 80 = .ok (.goto (-78), 3) := by decide +kernel
theorem dX2_hasNear_83 : decode cX2_hasNear 83 = .ok (.iconst 0, 1) := by decide +kernel
theorem dX2_hasNear_84 : decode cX2_hasNear 84 = .ok (.ireturn, 1) := by decide +kernel
theorem dX2_hasStepBelow_0 : decode cX2_hasStepBelow 0 = .ok (.iconst 1, 1) := by decide +kernel
theorem dX2_hasStepBelow_1 : decode cX2_hasStepBelow 1 = .ok (.istore_n 2, 1) := by decide +kernel
theorem dX2_hasStepBelow_2 : decode cX2_hasStepBelow 2 = .ok (.iload_n 2, 1) := by decide +kernel
theorem dX2_hasStepBelow_3 : decode cX2_hasStepBelow 3 = .ok (.aload_n 0, 1) := by decide +kernel
theorem dX2_hasStepBelow_4 : decode cX2_hasStepBelow 4 = .ok (.getfield 18, 3) := by decide +kernel
theorem dX2_hasStepBelow_7 : decode cX2_hasStepBelow 7 = .ok (.if_icmp .ge 54, 3) := by decide +kernel
theorem dX2_hasStepBelow_10 : decode cX2_hasStepBelow 10 = .ok (.aload_n 1, 1) := by decide +kernel
theorem dX2_hasStepBelow_11 : decode cX2_hasStepBelow 11 = .ok (.aload_n 0, 1) := by decide +kernel
theorem dX2_hasStepBelow_12 : decode cX2_hasStepBelow 12 = .ok (.getfield 21, 3) := by decide +kernel
theorem dX2_hasStepBelow_15 : decode cX2_hasStepBelow 15 = .ok (.iload_n 2, 1) := by decide +kernel
theorem dX2_hasStepBelow_16 : decode cX2_hasStepBelow 16 = .ok (.iconst 1, 1) := by decide +kernel
theorem dX2_hasStepBelow_17 : decode cX2_hasStepBelow 17 = .ok (.isub, 1) := by decide +kernel
theorem dX2_hasStepBelow_18 : decode cX2_hasStepBelow 18 = .ok (.iaload, 1) := by decide +kernel
theorem dX2_hasStepBelow_19 : decode cX2_hasStepBelow 19 = .ok (.iaload, 1) := by decide +kernel
theorem dX2_hasStepBelow_20 : decode cX2_hasStepBelow 20 = .ok (.istore_n 3, 1) := by decide +kernel
theorem dX2_hasStepBelow_21 : decode cX2_hasStepBelow 21 = .ok (.aload_n 1, 1) := by decide +kernel
theorem dX2_hasStepBelow_22 : decode cX2_hasStepBelow 22 = .ok (.aload_n 0, 1) := by decide +kernel
theorem dX2_hasStepBelow_23 : decode cX2_hasStepBelow 23 = .ok (.getfield 21, 3) := by decide +kernel
theorem dX2_hasStepBelow_26 : decode cX2_hasStepBelow 26 = .ok (.iload_n 2, 1) := by decide +kernel
theorem dX2_hasStepBelow_27 : decode cX2_hasStepBelow 27 = .ok (.iaload, 1) := by decide +kernel
theorem dX2_hasStepBelow_28 : decode cX2_hasStepBelow 28 = .ok (.iaload, 1) := by decide +kernel
theorem dX2_hasStepBelow_29 : decode cX2_hasStepBelow 29 = .ok (.istore 4, 2) := by decide +kernel
theorem dX2_hasStepBelow_31 : decode cX2_hasStepBelow 31 = .ok (.iload_n 3, 1) := by decide +kernel
theorem dX2_hasStepBelow_32 : decode cX2_hasStepBelow 32 = .ok (.iconst (-1), 1) := by decide +kernel
theorem dX2_hasStepBelow_33 : decode cX2_hasStepBelow 33 = .ok (.if_icmp .eq 22, 3) := by decide +kernel
theorem dX2_hasStepBelow_36 : decode cX2_hasStepBelow 36 = .ok (.iload 4, 2) := by decide +kernel
theorem dX2_hasStepBelow_38 : decode cX2_hasStepBelow 38 = .ok (.iconst (-1), 1) := by decide +kernel
theorem dX2_hasStepBelow_39 : decode cX2_hasStepBelow 39 = .ok (.if_icmp .eq 16, 3) := by decide +kernel
theorem dX2_hasStepBelow_42 : decode cX2_hasStepBelow 42 = .ok (.iload 4, 2) := by decide +kernel
theorem dX2_hasStepBelow_44 : decode cX2_hasStepBelow 44 = .ok (.iload_n 3, 1) := by decide +kernel
theorem dX2_hasStepBelow_45 : decode cX2_hasStepBelow 45 = .ok (.aload_n 0, 1) := by decide +kernel
theorem dX2_hasStepBelow_46 : decode cX2_hasStepBelow 46 = .ok (.getfield 15, 3) := by decide +kernel
theorem dX2_hasStepBelow_49 : decode cX2_hasStepBelow 49 = .ok (.iadd, 1) := by decide +kernel
theorem dX2_hasStepBelow_50 : decode cX2_hasStepBelow 50 = .ok (.if_icmp .ge 5, 3) := by decide +kernel
theorem dX2_hasStepBelow_53 : decode cX2_hasStepBelow 53 = .ok (.iconst 1, 1) := by decide +kernel
theorem dX2_hasStepBelow_54 : decode cX2_hasStepBelow 54 = .ok (.ireturn, 1) := by decide +kernel
theorem dX2_hasStepBelow_55 : decode cX2_hasStepBelow 55 = .ok (.iinc 2 1, 3) := by decide +kernel
theorem dX2_hasStepBelow_58 : decode cX2_hasStepBelow 58 = .ok (.goto (-56), 3) := by decide +kernel
theorem dX2_hasStepBelow_61 : decode cX2_hasStepBelow 61 = .ok (.iconst 0, 1) := by decide +kernel
theorem dX2_hasStepBelow_62 : decode cX2_hasStepBelow 62 = .ok (.ireturn, 1) := by decide +kernel
theorem dX2_willing_0 : decode cX2_willing 0 = .ok (.iconst 0, 1) := by decide +kernel
theorem dX2_willing_1 : decode cX2_willing 1 = .ok (.istore_n 2, 1) := by decide +kernel
theorem dX2_willing_2 : decode cX2_willing 2 = .ok (.iconst 0, 1) := by decide +kernel
theorem dX2_willing_3 : decode cX2_willing 3 = .ok (.istore_n 3, 1) := by decide +kernel
theorem dX2_willing_4 : decode cX2_willing 4 = .ok (.iload_n 3, 1) := by decide +kernel
theorem dX2_willing_5 : decode cX2_willing 5 = .ok (.aload_n 0, 1) := by decide +kernel
theorem dX2_willing_6 : decode cX2_willing 6 = .ok (.getfield 18, 3) := by decide +kernel
theorem dX2_willing_9 : decode cX2_willing 9 = .ok (.if_icmp .ge 39, 3) := by decide +kernel
theorem dX2_willing_12 : decode cX2_willing 12 = .ok (.aload_n 1, 1) := by decide +kernel
theorem dX2_willing_13 : decode cX2_willing 13 = .ok (.aload_n 0, 1) := by decide +kernel
theorem dX2_willing_14 : decode cX2_willing 14 = .ok (.getfield 21, 3) := by decide +kernel
theorem dX2_willing_17 : decode cX2_willing 17 = .ok (.iload_n 3, 1) := by decide +kernel
theorem dX2_willing_18 : decode cX2_willing 18 = .ok (.iaload, 1) := by decide +kernel
theorem dX2_willing_19 : decode cX2_willing 19 = .ok (.iaload, 1) := by decide +kernel
theorem dX2_willing_20 : decode cX2_willing 20 = .ok (.istore 4, 2) := by decide +kernel
theorem dX2_willing_22 : decode cX2_willing 22 = .ok (.iload 4, 2) := by decide +kernel
theorem dX2_willing_24 : decode cX2_willing 24 = .ok (.iconst (-1), 1) := by decide +kernel
theorem dX2_willing_25 : decode cX2_willing 25 = .ok (.if_icmp .eq 14, 3) := by decide +kernel
theorem dX2_willing_28 : decode cX2_willing 28 = .ok (.iload 4, 2) := by decide +kernel
theorem dX2_willing_30 : decode cX2_willing 30 = .ok (.aload_n 0, 1) := by decide +kernel
theorem dX2_willing_31 : decode cX2_willing 31 = .ok (.getfield 25, 3) := by decide +kernel
theorem dX2_willing_34 : decode cX2_willing 34 = .ok (.iload_n 3, 1) := by decide +kernel
theorem dX2_willing_35 : decode cX2_willing 35 = .ok (.iaload, 1) := by decide +kernel
theorem dX2_willing_36 : decode cX2_willing 36 = .ok (.if_icmp .ne 6, 3) := by decide +kernel
theorem dX2_willing_39 : decode cX2_willing 39 = .ok (.iinc 2 1, 3) := by decide +kernel
theorem dX2_willing_42 : decode cX2_willing 42 = .ok (.iinc 3 1, 3) := by decide +kernel
theorem dX2_willing_45 : decode cX2_willing 45 = .ok (.goto (-41), 3) := by decide +kernel
theorem dX2_willing_48 : decode cX2_willing 48 = .ok (.iload_n 2, 1) := by decide +kernel
theorem dX2_willing_49 : decode cX2_willing 49 = .ok (.ireturn, 1) := by decide +kernel
theorem dX2_treatsAlike_0 : decode cX2_treatsAlike 0 = .ok (.aload_n 0, 1) := by decide +kernel
theorem dX2_treatsAlike_1 : decode cX2_treatsAlike 1 = .ok (.getfield 28, 3) := by decide +kernel
theorem dX2_treatsAlike_4 : decode cX2_treatsAlike 4 = .ok (.iload_n 1, 1) := by decide +kernel
theorem dX2_treatsAlike_5 : decode cX2_treatsAlike 5 = .ok (.baload, 1) := by decide +kernel
theorem dX2_treatsAlike_6 : decode cX2_treatsAlike 6 = .ok (.ifCond .ne 14, 3) := by decide +kernel
theorem dX2_treatsAlike_9 : decode cX2_treatsAlike 9 = .ok (.aload_n 0, 1) := by decide +kernel
theorem dX2_treatsAlike_10 : decode cX2_treatsAlike 10 = .ok (.getfield 28, 3) := by decide +kernel
theorem dX2_treatsAlike_13 : decode cX2_treatsAlike 13 = .ok (.iload_n 2, 1) := by decide +kernel
theorem dX2_treatsAlike_14 : decode cX2_treatsAlike 14 = .ok (.baload, 1) := by decide +kernel
theorem dX2_treatsAlike_15 : decode cX2_treatsAlike 15 = .ok (.ifCond .ne 5, 3) := by decide +kernel
theorem dX2_treatsAlike_18 : decode cX2_treatsAlike 18 = .ok (.iconst 1, 1) := by decide +kernel
theorem dX2_treatsAlike_19 : decode cX2_treatsAlike 19 = .ok (.ireturn, 1) := by decide +kernel
theorem dX2_treatsAlike_20 : decode cX2_treatsAlike 20 = .ok (.aload_n 0, 1) := by decide +kernel
theorem dX2_treatsAlike_21 : decode cX2_treatsAlike 21 = .ok (.getfield 9, 3) := by decide +kernel
theorem dX2_treatsAlike_24 : decode cX2_treatsAlike 24 = .ok (.bipush 6, 2) := by decide +kernel
theorem dX2_treatsAlike_26 : decode cX2_treatsAlike 26 = .ok (.if_icmp .eq 40, 3) := by decide +kernel
theorem dX2_treatsAlike_29 : decode cX2_treatsAlike 29 = .ok (.aload_n 0, 1) := by decide +kernel
theorem dX2_treatsAlike_30 : decode cX2_treatsAlike 30 = .ok (.getfield 28, 3) := by decide +kernel
theorem dX2_treatsAlike_33 : decode cX2_treatsAlike 33 = .ok (.iload_n 1, 1) := by decide +kernel
theorem dX2_treatsAlike_34 : decode cX2_treatsAlike 34 = .ok (.baload, 1) := by decide +kernel
theorem dX2_treatsAlike_35 : decode cX2_treatsAlike 35 = .ok (.ifCond .eq 31, 3) := by decide +kernel
theorem dX2_treatsAlike_38 : decode cX2_treatsAlike 38 = .ok (.aload_n 0, 1) := by decide +kernel
theorem dX2_treatsAlike_39 : decode cX2_treatsAlike 39 = .ok (.getfield 28, 3) := by decide +kernel
theorem dX2_treatsAlike_42 : decode cX2_treatsAlike 42 = .ok (.iload_n 2, 1) := by decide +kernel
theorem dX2_treatsAlike_43 : decode cX2_treatsAlike 43 = .ok (.baload, 1) := by decide +kernel
theorem dX2_treatsAlike_44 : decode cX2_treatsAlike 44 = .ok (.ifCond .eq 22, 3) := by decide +kernel
theorem dX2_treatsAlike_47 : decode cX2_treatsAlike 47 = .ok (.aload_n 0, 1) := by decide +kernel
theorem dX2_treatsAlike_48 : decode cX2_treatsAlike 48 = .ok (.getfield 32, 3) := by decide +kernel
theorem dX2_treatsAlike_51 : decode cX2_treatsAlike 51 = .ok (.iload_n 1, 1) := by decide +kernel
theorem dX2_treatsAlike_52 : decode cX2_treatsAlike 52 = .ok (.iaload, 1) := by decide +kernel
theorem dX2_treatsAlike_53 : decode cX2_treatsAlike 53 = .ok (.aload_n 0, 1) := by decide +kernel
theorem dX2_treatsAlike_54 : decode cX2_treatsAlike 54 = .ok (.getfield 32, 3) := by decide +kernel
theorem dX2_treatsAlike_57 : decode cX2_treatsAlike 57 = .ok (.iload_n 2, 1) := by decide +kernel
theorem dX2_treatsAlike_58 : decode cX2_treatsAlike 58 = .ok (.iaload, 1) := by decide +kernel
theorem dX2_treatsAlike_59 : decode cX2_treatsAlike 59 = .ok (.if_icmp .ne 7, 3) := by decide +kernel
theorem dX2_treatsAlike_62 : decode cX2_treatsAlike 62 = .ok (.iconst 1, 1) := by decide +kernel
theorem dX2_treatsAlike_63 : decode cX2_treatsAlike 63 = .ok (.goto 4, 3) := by decide +kernel
theorem dX2_treatsAlike_66 : decode cX2_treatsAlike 66 = .ok (.iconst 0, 1) := by decide +kernel
theorem dX2_treatsAlike_67 : decode cX2_treatsAlike 67 = .ok (.ireturn, 1) := by decide +kernel

/-! part 23.rule -/
/-! RULES. A rule lies in five slots from q on; its memory is in order where its parts are, and their variables -/
def RuAt (q : Nat) : Prop := q + 4 < NS ∧ kd q = 2 ∧ kd (q + 1) = 8 ∧ kd (q + 2) = 8 ∧ kd (q + 3) = 11 ∧ kd (q + 4) = 8 ∧ ln (q + 1) = 6 ∧ ln (q + 2) = 6 ∧ ln (q + 3) = 6 ∧ ln (q + 4) = 6
def IA (v n : Nat) : Prop := v < NS ∧ kd v = 8 ∧ ln v = n
/-- n parts, of variables below 6 -/
def RuW (I A : Nat → Nat → Int32) (q n : Nat) : Prop := n ≤ 6 ∧ I q 2 = nI n ∧ ∀ i, i < n → vp_in (A (q + 1) i) 6
/-- the value of the i-th part's variable in the row at slot v -/
def pv (A : Nat → Nat → Int32) (q v i : Nat) : Int32 := A v (A (q + 1) i).toNatClampNeg
/-- what the i-th part adds to the least sum, and to the greatest -/
def tl (A : Nat → Nat → Int32) (q v z i : Nat) : Int32 := if pv A q v i = -1 then (if A (q + 2) i * (A z (A (q + 1) i).toNatClampNeg - 1) < 0 then A (q + 2) i * (A z (A (q + 1) i).toNatClampNeg - 1) else 0) else A (q + 2) i * pv A q v i
def tg (A : Nat → Nat → Int32) (q v z i : Nat) : Int32 := if pv A q v i = -1 then (if 0 < A (q + 2) i * (A z (A (q + 1) i).toNatClampNeg - 1) then A (q + 2) i * (A z (A (q + 1) i).toNatClampNeg - 1) else 0) else A (q + 2) i * pv A q v i
def tw (A : Nat → Nat → Int32) (q v i : Nat) : Int32 := if pv A q v i = -1 ∨ pv A q v i = A (q + 2) i then 1 else 0
def to (A : Nat → Nat → Int32) (q v i : Nat) : Int32 := if pv A q v i = -1 then (if A (q + 2) i < 0 then A (q + 2) i else 0) else 0
def tv (A : Nat → Nat → Int32) (q v : Nat) (x : Int32) (i : Nat) : Int32 := if pv A q v i = x then A (q + 2) i else 0
/-- a sum from i on, k steps -/
def sm (f : Nat → Int32) : Nat → Nat → Int32 → Int32
  | 0, _, a => a
  | k + 1, i, a => sm f k (i + 1) (a + f i)

set_option maxHeartbeats 4000000 in
set_option maxRecDepth 100000 in
/-- X2_leastSum: a sum over the parts -/
theorem c_X2_leastSum (l : Launch) (D : va_G) (K : Nat → ClassId) (ad : Nat → Nat) (hap0 : apart ad (fun _ => True)) (q v z n : Nat) (hq : RuAt q) (hv : IA v 6) (hz : IA z 6) (I : Nat → Nat → Int32) (G : Nat → Nat → Nat) (A : Nat → Nat → Int32) (L : Nat → Nat → Int64) (hw : RuW I A q n) : Ci l D K ad yX2_leastSum wsX2_leastSum 1 40 [.ref (ad q), .ref (ad v), .ref (ad z)] (I, G, A, L) (fun (r : Int32) (u : Mem) => r = sm (tl A q v z) n 0 0 ∧ u = (I, G, A, L)) := by
  intro sz
  refine Met.ofW (cc := cX2_leastSum) (maxL := 7) (ret := (some .int)) (by decide) rfl ?_
  intro p e s m args below meth c s₁ Bd hml hv0
  obtain ⟨rfl, hsz, hP, hK⟩ := hv0
  have hx := Bd.exec
  have hb := Bd.bytes
  have hr := Bd.returns
  have hts := atoms_spec (ws := wsX2_leastSum) Bd.pre
  have hown : s.vm.findClass RX2 = some m.cls := findClass_of_methodNamed Bd.named
  have hlocks := Bd.notSynchronized
  have hi2 : ∀ w ∈ u_ws RX2 TX2 7, w ∈ wsX2_leastSum := fun w h => List.mem_cons_of_mem _ (List.mem_append_right _ h)
  subst hsz
  have hap := vF_ap hap0 s.heap.size
  have hS : va_S (vF ad s.heap.size) s.heap s.heap [] := va_S.rf
  have hP : va_P D vwCl (VW K ad I G A L) s.heap := hP
  have hl := lv_entry ([.ref (ad q), .ref (ad v), .ref (ad z)]) (n := 7) (Nat.le_of_ble_eq_true rfl)
  rw [lg_entry_eq]
  generalize (lg_sl ([.ref (ad q), .ref (ad v), .ref (ad z)]) ++ List.replicate (7 - (lg_sl ([.ref (ad q), .ref (ad v), .ref (ad z)])).length) Slot.unset).toArray = ls at hl ⊢
  have hl : lv_has ls 7 [(0, .ref (ad q)), (1, .ref (ad v)), (2, .ref (ad z))] := hl
  have hn6 : n ≤ 6 := hw.1
  have hpn : I q 2 = nI n := hw.2.1
  refine lv_iconst (v := 0) hx hb dX2_leastSum_0 (by decide) ?_
  refine lv_istore_n (lv' := [(3, .int 0), (0, .ref (ad q)), (1, .ref (ad v)), (2, .ref (ad z))]) hx hb dX2_leastSum_1 rfl hl (by decide) rfl (fun ls hl => ?_)
  refine lv_iconst (v := 0) hx hb dX2_leastSum_2 (by decide) ?_
  refine lv_istore (lv' := [(4, .int 0), (3, .int 0), (0, .ref (ad q)), (1, .ref (ad v)), (2, .ref (ad z))]) hx hb dX2_leastSum_3 hl (by decide) rfl (fun ls hl => ?_)
  have kx1 : ∀ (a : Int32), sm (tl A q v z) 0 n a = sm (tl A q v z) n 0 0 → ∀ (H : Heap) (locs : List Loc), va_P D vwCl (VW K ad I G A L) H → va_S (vF ad s.heap.size) s.heap H locs → ∀ (ls : Array Slot), lv_has ls 7 [(4, .int (nI n)), (3, .int a), (0, .ref (ad q)), (1, .ref (ad v)), (2, .ref (ad z))] → W p l e ({ frames := 1, cells := 0, slots := 0, locals := 40 }) s m ([.ref (ad q), .ref (ad v), .ref (ad z)] : List Value).toArray below meth c H locs 0 0 (MQ below (va_Qi (fun (r : Int32) (u : Mem) => r = sm (tl A q v z) n 0 0 ∧ u = (I, G, A, L)) (vB D K ad) (vF ad s.heap.size)) ([.ref (ad q), .ref (ad v), .ref (ad z)] : List Value).toArray s 0 0 (vF ad s.heap.size)) (F0 m 80 ls []) := by
    intro a hinv1 H locs hP hS ls hl
    refine lv_iload_n hx hb dX2_leastSum_80 rfl (lv_at hl 1 rfl) ?_
    exact W.iret (v := a) hx hb hr (fun t ht hW => ⟨⟨a, (I, G, A, L), rfl, ⟨hinv1, rfl⟩, by rw [ht]; exact hP, va_K.moved hW.alike hK⟩, hS.F ht⟩) hS.2.2 dX2_leastSum_81
  have lp1 : ∀ (k1 i : Nat) (a : Int32), i + k1 = n → sm (tl A q v z) k1 i a = sm (tl A q v z) n 0 0 → ∀ (H : Heap) (locs : List Loc), va_P D vwCl (VW K ad I G A L) H → va_S (vF ad s.heap.size) s.heap H locs → ∀ (ls : Array Slot), lv_has ls 7 [(4, .int (nI i)), (3, .int a), (0, .ref (ad q)), (1, .ref (ad v)), (2, .ref (ad z))] → W p l e ({ frames := 1, cells := 0, slots := 0, locals := 40 }) s m ([.ref (ad q), .ref (ad v), .ref (ad z)] : List Value).toArray below meth c H locs 0 0 (MQ below (va_Qi (fun (r : Int32) (u : Mem) => r = sm (tl A q v z) n 0 0 ∧ u = (I, G, A, L)) (vB D K ad) (vF ad s.heap.size)) ([.ref (ad q), .ref (ad v), .ref (ad z)] : List Value).toArray s 0 0 (vF ad s.heap.size)) (F0 m 5 ls []) := by
    intro k1
    induction k1 with
    | zero =>
      intro i a hk1 hinv1 H locs hP hS ls hl
      obtain rfl : n = i := by omega
      refine lv_iload hx hb dX2_leastSum_5 (lv_at hl 0 rfl) ?_
      refine lv_aload_n hx hb dX2_leastSum_7 rfl (lv_at hl 2 rfl) ?_
      refine vgI hx hb hts hi2 hown hK hP (q) (by have := hq.1; omega) hq.2.1 (C := RX2) (T := TX2) (N := 7) rfl 2 (by decide) (by decide) (by decide) (by decide) (hts (.fieldLink RX2 18 "CrateHelpers$Rule" "parts" "I") (by decide +kernel)) (fun _ h9 => h9) dX2_leastSum_8 ?_
      rw [hpn]
      refine lv_icmp_ge (tgt := 80) hx hb dX2_leastSum_11 (by decide) (fun _ => ?_) (fun c_2 => absurd (nI_le (Nat.le_refl _) (by omega)) c_2)
      exact kx1 a (hinv1) H locs hP hS ls (lv_sub hl [0, 1, 2, 3, 4] rfl)
    | succ k1 ih1 =>
      intro i a hk1 hinv1 H locs hP hS ls hl
      have hlt1 : i < n := by omega
      have hi11 : vp_in (nI i) (ln (q + 1)) := by rw [hq.2.2.2.2.2.2.1]; exact vp_in_nI (by omega) (by omega)
      have hi21 : vp_in (nI i) (ln (q + 2)) := by rw [hq.2.2.2.2.2.2.2.1]; exact vp_in_nI (by omega) (by omega)
      have hv11 : vp_in (A (q + 1) i) (ln v) := by rw [hv.2.2]; exact hw.2.2 i (by omega)
      have hz11 : vp_in (A (q + 1) i) (ln z) := by rw [hz.2.2]; exact hw.2.2 i (by omega)
      refine lv_iload hx hb dX2_leastSum_5 (lv_at hl 0 rfl) ?_
      refine lv_aload_n hx hb dX2_leastSum_7 rfl (lv_at hl 2 rfl) ?_
      refine vgI hx hb hts hi2 hown hK hP (q) (by have := hq.1; omega) hq.2.1 (C := RX2) (T := TX2) (N := 7) rfl 2 (by decide) (by decide) (by decide) (by decide) (hts (.fieldLink RX2 18 "CrateHelpers$Rule" "parts" "I") (by decide +kernel)) (fun _ h9 => h9) dX2_leastSum_8 ?_
      rw [hpn]
      refine lv_icmp_ge (tgt := 80) hx hb dX2_leastSum_11 (by decide) (fun c_3 => absurd c_3 (nI_ge (by omega) (by omega))) (fun _ => ?_)
      refine lv_aload_n hx hb dX2_leastSum_14 rfl (lv_at hl 3 rfl) ?_
      refine lv_aload_n hx hb dX2_leastSum_15 rfl (lv_at hl 2 rfl) ?_
      refine vgS hx hb hts hi2 hown hK hP (q) (by have := hq.1; omega) hq.2.1 (C := RX2) (T := TX2) (N := 7) rfl 3 (by decide) (by decide) (by decide) (by decide) (q + 1) rfl (hts (.fieldLink RX2 21 "CrateHelpers$Rule" "variables" "[I") (by decide +kernel)) (fun _ h9 => h9) dX2_leastSum_16 ?_
      refine lv_iload hx hb dX2_leastSum_19 (lv_at hl 0 rfl) ?_
      refine xiald hx hb hK hP (q + 1) (by have := hq.1; omega) hq.2.2.1 hi11 dX2_leastSum_21 ?_
      rw [nI_clamp (n := i) (by omega)]
      refine xiald hx hb hK hP (v) hv.1 hv.2.1 hv11 dX2_leastSum_22 ?_
      refine lv_istore (lv' := [(5, .int (A v ((A (q + 1) i).toNatClampNeg))), (4, .int (nI i)), (3, .int a), (0, .ref (ad q)), (1, .ref (ad v)), (2, .ref (ad z))]) hx hb dX2_leastSum_23 hl (by decide) rfl (fun ls hl => ?_)
      refine lv_aload_n hx hb dX2_leastSum_25 rfl (lv_at hl 5 rfl) ?_
      refine lv_aload_n hx hb dX2_leastSum_26 rfl (lv_at hl 3 rfl) ?_
      refine vgS hx hb hts hi2 hown hK hP (q) (by have := hq.1; omega) hq.2.1 (C := RX2) (T := TX2) (N := 7) rfl 3 (by decide) (by decide) (by decide) (by decide) (q + 1) rfl (hts (.fieldLink RX2 21 "CrateHelpers$Rule" "variables" "[I") (by decide +kernel)) (fun _ h9 => h9) dX2_leastSum_27 ?_
      refine lv_iload hx hb dX2_leastSum_30 (lv_at hl 1 rfl) ?_
      refine xiald hx hb hK hP (q + 1) (by have := hq.1; omega) hq.2.2.1 hi11 dX2_leastSum_32 ?_
      rw [nI_clamp (n := i) (by omega)]
      refine xiald hx hb hK hP (z) hz.1 hz.2.1 hz11 dX2_leastSum_33 ?_
      refine lv_iconst (v := 1) hx hb dX2_leastSum_34 (by decide) ?_
      refine lv_isub hx hb dX2_leastSum_35 ?_
      refine lv_istore (lv' := [(6, .int ((A z ((A (q + 1) i).toNatClampNeg)) - 1)), (5, .int (A v ((A (q + 1) i).toNatClampNeg))), (4, .int (nI i)), (3, .int a), (0, .ref (ad q)), (1, .ref (ad v)), (2, .ref (ad z))]) hx hb dX2_leastSum_36 hl (by decide) rfl (fun ls hl => ?_)
      refine lv_iload_n hx hb dX2_leastSum_38 rfl (lv_at hl 3 rfl) ?_
      refine lv_iload hx hb dX2_leastSum_39 (lv_at hl 1 rfl) ?_
      refine lv_iconst (v := (-1)) hx hb dX2_leastSum_41 (by decide) ?_
      refine lv_icmp_ne (tgt := 62) hx hb dX2_leastSum_42 (by decide) (fun c_4 => ?_) (fun c_4 => ?_)
      · refine lv_aload_n hx hb dX2_leastSum_62 rfl (lv_at hl 4 rfl) ?_
        refine vgS hx hb hts hi2 hown hK hP (q) (by have := hq.1; omega) hq.2.1 (C := RX2) (T := TX2) (N := 7) rfl 4 (by decide) (by decide) (by decide) (by decide) (q + 2) rfl (hts (.fieldLink RX2 25 "CrateHelpers$Rule" "weights" "[I") (by decide +kernel)) (fun _ h9 => h9) dX2_leastSum_63 ?_
        refine lv_iload hx hb dX2_leastSum_66 (lv_at hl 2 rfl) ?_
        refine xiald hx hb hK hP (q + 2) (by have := hq.1; omega) hq.2.2.2.1 hi21 dX2_leastSum_68 ?_
        rw [nI_clamp (n := i) (by omega)]
        refine lv_iload hx hb dX2_leastSum_69 (lv_at hl 1 rfl) ?_
        refine lv_imul hx hb dX2_leastSum_71 ?_
        refine lv_iadd hx hb dX2_leastSum_72 ?_
        refine lv_istore_n (lv' := [(3, .int (a + ((A (q + 2) i) * (A v ((A (q + 1) i).toNatClampNeg))))), (6, .int ((A z ((A (q + 1) i).toNatClampNeg)) - 1)), (5, .int (A v ((A (q + 1) i).toNatClampNeg))), (4, .int (nI i)), (0, .ref (ad q)), (1, .ref (ad v)), (2, .ref (ad z))]) hx hb dX2_leastSum_73 rfl hl (by decide) rfl (fun ls hl => ?_)
        refine lv_iinc (v := (nI (i + 1))) (lv' := [(4, .int (nI (i + 1))), (3, .int (a + ((A (q + 2) i) * (A v ((A (q + 1) i).toNatClampNeg))))), (6, .int ((A z ((A (q + 1) i).toNatClampNeg)) - 1)), (5, .int (A v ((A (q + 1) i).toNatClampNeg))), (0, .ref (ad q)), (1, .ref (ad v)), (2, .ref (ad z))]) hx hb dX2_leastSum_74 hl (k := 3) rfl (nI_1 i) (by decide) rfl (fun ls hl => ?_)
        refine lv_goto (tgt := 5) hx hb dX2_leastSum_77 (by decide) ?_
        exact ih1 (i + 1) (a + ((A (q + 2) i) * (A v ((A (q + 1) i).toNatClampNeg)))) (by omega) (by rw [← hinv1]; simp [sm, tl, pv, c_4]) H locs hP hS ls (lv_sub hl [0, 1, 4, 5, 6] rfl)
      · refine lv_iconst (v := 0) hx hb dX2_leastSum_45 (by decide) ?_
        refine lv_aload_n hx hb dX2_leastSum_46 rfl (lv_at hl 4 rfl) ?_
        refine vgS hx hb hts hi2 hown hK hP (q) (by have := hq.1; omega) hq.2.1 (C := RX2) (T := TX2) (N := 7) rfl 4 (by decide) (by decide) (by decide) (by decide) (q + 2) rfl (hts (.fieldLink RX2 25 "CrateHelpers$Rule" "weights" "[I") (by decide +kernel)) (fun _ h9 => h9) dX2_leastSum_47 ?_
        refine lv_iload hx hb dX2_leastSum_50 (lv_at hl 2 rfl) ?_
        refine xiald hx hb hK hP (q + 2) (by have := hq.1; omega) hq.2.2.2.1 hi21 dX2_leastSum_52 ?_
        rw [nI_clamp (n := i) (by omega)]
        refine lv_iload hx hb dX2_leastSum_53 (lv_at hl 0 rfl) ?_
        refine lv_imul hx hb dX2_leastSum_55 ?_
        refine va_mmin hx hb (by rw [hml]; exact hl.1.symm) hown (hts (.methodLink RX2 63 Lib.Math.min.name) (by decide +kernel)) (hts (.static Lib.Math.min.name) (by decide +kernel)) (hts (.initialized "java/lang/Math") (by decide +kernel)) (hts (.code Lib.Math.min.name Lib.Math.min.code 2 (some .int)) (List.mem_of_getElem? (i := 7) rfl)) (Nat.le_of_ble_eq_true rfl) (Nat.le_of_ble_eq_true rfl) (Nat.le_of_ble_eq_true rfl) (Nat.le_of_ble_eq_true rfl) dX2_leastSum_56 ?_
        refine lv_goto (tgt := 72) hx hb dX2_leastSum_59 (by decide) ?_
        refine lv_iadd hx hb dX2_leastSum_72 ?_
        refine lv_istore_n (lv' := [(3, .int (a + (if ((A (q + 2) i) * ((A z ((A (q + 1) i).toNatClampNeg)) - 1)) < 0 then ((A (q + 2) i) * ((A z ((A (q + 1) i).toNatClampNeg)) - 1)) else 0))), (6, .int ((A z ((A (q + 1) i).toNatClampNeg)) - 1)), (5, .int (A v ((A (q + 1) i).toNatClampNeg))), (4, .int (nI i)), (0, .ref (ad q)), (1, .ref (ad v)), (2, .ref (ad z))]) hx hb dX2_leastSum_73 rfl hl (by decide) rfl (fun ls hl => ?_)
        refine lv_iinc (v := (nI (i + 1))) (lv' := [(4, .int (nI (i + 1))), (3, .int (a + (if ((A (q + 2) i) * ((A z ((A (q + 1) i).toNatClampNeg)) - 1)) < 0 then ((A (q + 2) i) * ((A z ((A (q + 1) i).toNatClampNeg)) - 1)) else 0))), (6, .int ((A z ((A (q + 1) i).toNatClampNeg)) - 1)), (5, .int (A v ((A (q + 1) i).toNatClampNeg))), (0, .ref (ad q)), (1, .ref (ad v)), (2, .ref (ad z))]) hx hb dX2_leastSum_74 hl (k := 3) rfl (nI_1 i) (by decide) rfl (fun ls hl => ?_)
        refine lv_goto (tgt := 5) hx hb dX2_leastSum_77 (by decide) ?_
        exact ih1 (i + 1) (a + (if ((A (q + 2) i) * ((A z ((A (q + 1) i).toNatClampNeg)) - 1)) < 0 then ((A (q + 2) i) * ((A z ((A (q + 1) i).toNatClampNeg)) - 1)) else 0)) (by omega) (by rw [← hinv1]; simp [sm, tl, pv, c_4]) H locs hP hS ls (lv_sub hl [0, 1, 4, 5, 6] rfl)
  exact lp1 (n) 0 0 (by omega) (rfl) _ _ hP hS ls (lv_sub hl [0, 1, 2, 3, 4] rfl)

set_option maxHeartbeats 4000000 in
set_option maxRecDepth 100000 in
/-- X2_greatestSum: a sum over the parts -/
theorem c_X2_greatestSum (l : Launch) (D : va_G) (K : Nat → ClassId) (ad : Nat → Nat) (hap0 : apart ad (fun _ => True)) (q v z n : Nat) (hq : RuAt q) (hv : IA v 6) (hz : IA z 6) (I : Nat → Nat → Int32) (G : Nat → Nat → Nat) (A : Nat → Nat → Int32) (L : Nat → Nat → Int64) (hw : RuW I A q n) : Ci l D K ad yX2_greatestSum wsX2_greatestSum 1 40 [.ref (ad q), .ref (ad v), .ref (ad z)] (I, G, A, L) (fun (r : Int32) (u : Mem) => r = sm (tg A q v z) n 0 0 ∧ u = (I, G, A, L)) := by
  intro sz
  refine Met.ofW (cc := cX2_greatestSum) (maxL := 7) (ret := (some .int)) (by decide) rfl ?_
  intro p e s m args below meth c s₁ Bd hml hv0
  obtain ⟨rfl, hsz, hP, hK⟩ := hv0
  have hx := Bd.exec
  have hb := Bd.bytes
  have hr := Bd.returns
  have hts := atoms_spec (ws := wsX2_greatestSum) Bd.pre
  have hown : s.vm.findClass RX2 = some m.cls := findClass_of_methodNamed Bd.named
  have hlocks := Bd.notSynchronized
  have hi2 : ∀ w ∈ u_ws RX2 TX2 7, w ∈ wsX2_greatestSum := fun w h => List.mem_cons_of_mem _ (List.mem_append_right _ h)
  subst hsz
  have hap := vF_ap hap0 s.heap.size
  have hS : va_S (vF ad s.heap.size) s.heap s.heap [] := va_S.rf
  have hP : va_P D vwCl (VW K ad I G A L) s.heap := hP
  have hl := lv_entry ([.ref (ad q), .ref (ad v), .ref (ad z)]) (n := 7) (Nat.le_of_ble_eq_true rfl)
  rw [lg_entry_eq]
  generalize (lg_sl ([.ref (ad q), .ref (ad v), .ref (ad z)]) ++ List.replicate (7 - (lg_sl ([.ref (ad q), .ref (ad v), .ref (ad z)])).length) Slot.unset).toArray = ls at hl ⊢
  have hl : lv_has ls 7 [(0, .ref (ad q)), (1, .ref (ad v)), (2, .ref (ad z))] := hl
  have hn6 : n ≤ 6 := hw.1
  have hpn : I q 2 = nI n := hw.2.1
  refine lv_iconst (v := 0) hx hb dX2_greatestSum_0 (by decide) ?_
  refine lv_istore_n (lv' := [(3, .int 0), (0, .ref (ad q)), (1, .ref (ad v)), (2, .ref (ad z))]) hx hb dX2_greatestSum_1 rfl hl (by decide) rfl (fun ls hl => ?_)
  refine lv_iconst (v := 0) hx hb dX2_greatestSum_2 (by decide) ?_
  refine lv_istore (lv' := [(4, .int 0), (3, .int 0), (0, .ref (ad q)), (1, .ref (ad v)), (2, .ref (ad z))]) hx hb dX2_greatestSum_3 hl (by decide) rfl (fun ls hl => ?_)
  have kx1 : ∀ (a : Int32), sm (tg A q v z) 0 n a = sm (tg A q v z) n 0 0 → ∀ (H : Heap) (locs : List Loc), va_P D vwCl (VW K ad I G A L) H → va_S (vF ad s.heap.size) s.heap H locs → ∀ (ls : Array Slot), lv_has ls 7 [(4, .int (nI n)), (3, .int a), (0, .ref (ad q)), (1, .ref (ad v)), (2, .ref (ad z))] → W p l e ({ frames := 1, cells := 0, slots := 0, locals := 40 }) s m ([.ref (ad q), .ref (ad v), .ref (ad z)] : List Value).toArray below meth c H locs 0 0 (MQ below (va_Qi (fun (r : Int32) (u : Mem) => r = sm (tg A q v z) n 0 0 ∧ u = (I, G, A, L)) (vB D K ad) (vF ad s.heap.size)) ([.ref (ad q), .ref (ad v), .ref (ad z)] : List Value).toArray s 0 0 (vF ad s.heap.size)) (F0 m 80 ls []) := by
    intro a hinv1 H locs hP hS ls hl
    refine lv_iload_n hx hb dX2_greatestSum_80 rfl (lv_at hl 1 rfl) ?_
    exact W.iret (v := a) hx hb hr (fun t ht hW => ⟨⟨a, (I, G, A, L), rfl, ⟨hinv1, rfl⟩, by rw [ht]; exact hP, va_K.moved hW.alike hK⟩, hS.F ht⟩) hS.2.2 dX2_greatestSum_81
  have lp1 : ∀ (k1 i : Nat) (a : Int32), i + k1 = n → sm (tg A q v z) k1 i a = sm (tg A q v z) n 0 0 → ∀ (H : Heap) (locs : List Loc), va_P D vwCl (VW K ad I G A L) H → va_S (vF ad s.heap.size) s.heap H locs → ∀ (ls : Array Slot), lv_has ls 7 [(4, .int (nI i)), (3, .int a), (0, .ref (ad q)), (1, .ref (ad v)), (2, .ref (ad z))] → W p l e ({ frames := 1, cells := 0, slots := 0, locals := 40 }) s m ([.ref (ad q), .ref (ad v), .ref (ad z)] : List Value).toArray below meth c H locs 0 0 (MQ below (va_Qi (fun (r : Int32) (u : Mem) => r = sm (tg A q v z) n 0 0 ∧ u = (I, G, A, L)) (vB D K ad) (vF ad s.heap.size)) ([.ref (ad q), .ref (ad v), .ref (ad z)] : List Value).toArray s 0 0 (vF ad s.heap.size)) (F0 m 5 ls []) := by
    intro k1
    induction k1 with
    | zero =>
      intro i a hk1 hinv1 H locs hP hS ls hl
      obtain rfl : n = i := by omega
      refine lv_iload hx hb dX2_greatestSum_5 (lv_at hl 0 rfl) ?_
      refine lv_aload_n hx hb dX2_greatestSum_7 rfl (lv_at hl 2 rfl) ?_
      refine vgI hx hb hts hi2 hown hK hP (q) (by have := hq.1; omega) hq.2.1 (C := RX2) (T := TX2) (N := 7) rfl 2 (by decide) (by decide) (by decide) (by decide) (hts (.fieldLink RX2 18 "CrateHelpers$Rule" "parts" "I") (by decide +kernel)) (fun _ h9 => h9) dX2_greatestSum_8 ?_
      rw [hpn]
      refine lv_icmp_ge (tgt := 80) hx hb dX2_greatestSum_11 (by decide) (fun _ => ?_) (fun c_2 => absurd (nI_le (Nat.le_refl _) (by omega)) c_2)
      exact kx1 a (hinv1) H locs hP hS ls (lv_sub hl [0, 1, 2, 3, 4] rfl)
    | succ k1 ih1 =>
      intro i a hk1 hinv1 H locs hP hS ls hl
      have hlt1 : i < n := by omega
      have hi11 : vp_in (nI i) (ln (q + 1)) := by rw [hq.2.2.2.2.2.2.1]; exact vp_in_nI (by omega) (by omega)
      have hi21 : vp_in (nI i) (ln (q + 2)) := by rw [hq.2.2.2.2.2.2.2.1]; exact vp_in_nI (by omega) (by omega)
      have hv11 : vp_in (A (q + 1) i) (ln v) := by rw [hv.2.2]; exact hw.2.2 i (by omega)
      have hz11 : vp_in (A (q + 1) i) (ln z) := by rw [hz.2.2]; exact hw.2.2 i (by omega)
      refine lv_iload hx hb dX2_greatestSum_5 (lv_at hl 0 rfl) ?_
      refine lv_aload_n hx hb dX2_greatestSum_7 rfl (lv_at hl 2 rfl) ?_
      refine vgI hx hb hts hi2 hown hK hP (q) (by have := hq.1; omega) hq.2.1 (C := RX2) (T := TX2) (N := 7) rfl 2 (by decide) (by decide) (by decide) (by decide) (hts (.fieldLink RX2 18 "CrateHelpers$Rule" "parts" "I") (by decide +kernel)) (fun _ h9 => h9) dX2_greatestSum_8 ?_
      rw [hpn]
      refine lv_icmp_ge (tgt := 80) hx hb dX2_greatestSum_11 (by decide) (fun c_3 => absurd c_3 (nI_ge (by omega) (by omega))) (fun _ => ?_)
      refine lv_aload_n hx hb dX2_greatestSum_14 rfl (lv_at hl 3 rfl) ?_
      refine lv_aload_n hx hb dX2_greatestSum_15 rfl (lv_at hl 2 rfl) ?_
      refine vgS hx hb hts hi2 hown hK hP (q) (by have := hq.1; omega) hq.2.1 (C := RX2) (T := TX2) (N := 7) rfl 3 (by decide) (by decide) (by decide) (by decide) (q + 1) rfl (hts (.fieldLink RX2 21 "CrateHelpers$Rule" "variables" "[I") (by decide +kernel)) (fun _ h9 => h9) dX2_greatestSum_16 ?_
      refine lv_iload hx hb dX2_greatestSum_19 (lv_at hl 0 rfl) ?_
      refine xiald hx hb hK hP (q + 1) (by have := hq.1; omega) hq.2.2.1 hi11 dX2_greatestSum_21 ?_
      rw [nI_clamp (n := i) (by omega)]
      refine xiald hx hb hK hP (v) hv.1 hv.2.1 hv11 dX2_greatestSum_22 ?_
      refine lv_istore (lv' := [(5, .int (A v ((A (q + 1) i).toNatClampNeg))), (4, .int (nI i)), (3, .int a), (0, .ref (ad q)), (1, .ref (ad v)), (2, .ref (ad z))]) hx hb dX2_greatestSum_23 hl (by decide) rfl (fun ls hl => ?_)
      refine lv_aload_n hx hb dX2_greatestSum_25 rfl (lv_at hl 5 rfl) ?_
      refine lv_aload_n hx hb dX2_greatestSum_26 rfl (lv_at hl 3 rfl) ?_
      refine vgS hx hb hts hi2 hown hK hP (q) (by have := hq.1; omega) hq.2.1 (C := RX2) (T := TX2) (N := 7) rfl 3 (by decide) (by decide) (by decide) (by decide) (q + 1) rfl (hts (.fieldLink RX2 21 "CrateHelpers$Rule" "variables" "[I") (by decide +kernel)) (fun _ h9 => h9) dX2_greatestSum_27 ?_
      refine lv_iload hx hb dX2_greatestSum_30 (lv_at hl 1 rfl) ?_
      refine xiald hx hb hK hP (q + 1) (by have := hq.1; omega) hq.2.2.1 hi11 dX2_greatestSum_32 ?_
      rw [nI_clamp (n := i) (by omega)]
      refine xiald hx hb hK hP (z) hz.1 hz.2.1 hz11 dX2_greatestSum_33 ?_
      refine lv_iconst (v := 1) hx hb dX2_greatestSum_34 (by decide) ?_
      refine lv_isub hx hb dX2_greatestSum_35 ?_
      refine lv_istore (lv' := [(6, .int ((A z ((A (q + 1) i).toNatClampNeg)) - 1)), (5, .int (A v ((A (q + 1) i).toNatClampNeg))), (4, .int (nI i)), (3, .int a), (0, .ref (ad q)), (1, .ref (ad v)), (2, .ref (ad z))]) hx hb dX2_greatestSum_36 hl (by decide) rfl (fun ls hl => ?_)
      refine lv_iload_n hx hb dX2_greatestSum_38 rfl (lv_at hl 3 rfl) ?_
      refine lv_iload hx hb dX2_greatestSum_39 (lv_at hl 1 rfl) ?_
      refine lv_iconst (v := (-1)) hx hb dX2_greatestSum_41 (by decide) ?_
      refine lv_icmp_ne (tgt := 62) hx hb dX2_greatestSum_42 (by decide) (fun c_4 => ?_) (fun c_4 => ?_)
      · refine lv_aload_n hx hb dX2_greatestSum_62 rfl (lv_at hl 4 rfl) ?_
        refine vgS hx hb hts hi2 hown hK hP (q) (by have := hq.1; omega) hq.2.1 (C := RX2) (T := TX2) (N := 7) rfl 4 (by decide) (by decide) (by decide) (by decide) (q + 2) rfl (hts (.fieldLink RX2 25 "CrateHelpers$Rule" "weights" "[I") (by decide +kernel)) (fun _ h9 => h9) dX2_greatestSum_63 ?_
        refine lv_iload hx hb dX2_greatestSum_66 (lv_at hl 2 rfl) ?_
        refine xiald hx hb hK hP (q + 2) (by have := hq.1; omega) hq.2.2.2.1 hi21 dX2_greatestSum_68 ?_
        rw [nI_clamp (n := i) (by omega)]
        refine lv_iload hx hb dX2_greatestSum_69 (lv_at hl 1 rfl) ?_
        refine lv_imul hx hb dX2_greatestSum_71 ?_
        refine lv_iadd hx hb dX2_greatestSum_72 ?_
        refine lv_istore_n (lv' := [(3, .int (a + ((A (q + 2) i) * (A v ((A (q + 1) i).toNatClampNeg))))), (6, .int ((A z ((A (q + 1) i).toNatClampNeg)) - 1)), (5, .int (A v ((A (q + 1) i).toNatClampNeg))), (4, .int (nI i)), (0, .ref (ad q)), (1, .ref (ad v)), (2, .ref (ad z))]) hx hb dX2_greatestSum_73 rfl hl (by decide) rfl (fun ls hl => ?_)
        refine lv_iinc (v := (nI (i + 1))) (lv' := [(4, .int (nI (i + 1))), (3, .int (a + ((A (q + 2) i) * (A v ((A (q + 1) i).toNatClampNeg))))), (6, .int ((A z ((A (q + 1) i).toNatClampNeg)) - 1)), (5, .int (A v ((A (q + 1) i).toNatClampNeg))), (0, .ref (ad q)), (1, .ref (ad v)), (2, .ref (ad z))]) hx hb dX2_greatestSum_74 hl (k := 3) rfl (nI_1 i) (by decide) rfl (fun ls hl => ?_)
        refine lv_goto (tgt := 5) hx hb dX2_greatestSum_77 (by decide) ?_
        exact ih1 (i + 1) (a + ((A (q + 2) i) * (A v ((A (q + 1) i).toNatClampNeg)))) (by omega) (by rw [← hinv1]; simp [sm, tg, pv, c_4]) H locs hP hS ls (lv_sub hl [0, 1, 4, 5, 6] rfl)
      · refine lv_iconst (v := 0) hx hb dX2_greatestSum_45 (by decide) ?_
        refine lv_aload_n hx hb dX2_greatestSum_46 rfl (lv_at hl 4 rfl) ?_
        refine vgS hx hb hts hi2 hown hK hP (q) (by have := hq.1; omega) hq.2.1 (C := RX2) (T := TX2) (N := 7) rfl 4 (by decide) (by decide) (by decide) (by decide) (q + 2) rfl (hts (.fieldLink RX2 25 "CrateHelpers$Rule" "weights" "[I") (by decide +kernel)) (fun _ h9 => h9) dX2_greatestSum_47 ?_
        refine lv_iload hx hb dX2_greatestSum_50 (lv_at hl 2 rfl) ?_
        refine xiald hx hb hK hP (q + 2) (by have := hq.1; omega) hq.2.2.2.1 hi21 dX2_greatestSum_52 ?_
        rw [nI_clamp (n := i) (by omega)]
        refine lv_iload hx hb dX2_greatestSum_53 (lv_at hl 0 rfl) ?_
        refine lv_imul hx hb dX2_greatestSum_55 ?_
        refine va_mmax hx hb (by rw [hml]; exact hl.1.symm) hown (hts (.methodLink RX2 50 Lib.Math.max.name) (by decide +kernel)) (hts (.static Lib.Math.max.name) (by decide +kernel)) (hts (.initialized "java/lang/Math") (by decide +kernel)) (hts (.code Lib.Math.max.name Lib.Math.max.code 2 (some .int)) (List.mem_of_getElem? (i := 7) rfl)) (Nat.le_of_ble_eq_true rfl) (Nat.le_of_ble_eq_true rfl) (Nat.le_of_ble_eq_true rfl) (Nat.le_of_ble_eq_true rfl) dX2_greatestSum_56 ?_
        refine lv_goto (tgt := 72) hx hb dX2_greatestSum_59 (by decide) ?_
        refine lv_iadd hx hb dX2_greatestSum_72 ?_
        refine lv_istore_n (lv' := [(3, .int (a + (if 0 < ((A (q + 2) i) * ((A z ((A (q + 1) i).toNatClampNeg)) - 1)) then ((A (q + 2) i) * ((A z ((A (q + 1) i).toNatClampNeg)) - 1)) else 0))), (6, .int ((A z ((A (q + 1) i).toNatClampNeg)) - 1)), (5, .int (A v ((A (q + 1) i).toNatClampNeg))), (4, .int (nI i)), (0, .ref (ad q)), (1, .ref (ad v)), (2, .ref (ad z))]) hx hb dX2_greatestSum_73 rfl hl (by decide) rfl (fun ls hl => ?_)
        refine lv_iinc (v := (nI (i + 1))) (lv' := [(4, .int (nI (i + 1))), (3, .int (a + (if 0 < ((A (q + 2) i) * ((A z ((A (q + 1) i).toNatClampNeg)) - 1)) then ((A (q + 2) i) * ((A z ((A (q + 1) i).toNatClampNeg)) - 1)) else 0))), (6, .int ((A z ((A (q + 1) i).toNatClampNeg)) - 1)), (5, .int (A v ((A (q + 1) i).toNatClampNeg))), (0, .ref (ad q)), (1, .ref (ad v)), (2, .ref (ad z))]) hx hb dX2_greatestSum_74 hl (k := 3) rfl (nI_1 i) (by decide) rfl (fun ls hl => ?_)
        refine lv_goto (tgt := 5) hx hb dX2_greatestSum_77 (by decide) ?_
        exact ih1 (i + 1) (a + (if 0 < ((A (q + 2) i) * ((A z ((A (q + 1) i).toNatClampNeg)) - 1)) then ((A (q + 2) i) * ((A z ((A (q + 1) i).toNatClampNeg)) - 1)) else 0)) (by omega) (by rw [← hinv1]; simp [sm, tg, pv, c_4]) H locs hP hS ls (lv_sub hl [0, 1, 4, 5, 6] rfl)
  exact lp1 (n) 0 0 (by omega) (rfl) _ _ hP hS ls (lv_sub hl [0, 1, 2, 3, 4] rfl)

/-! part 23.rule2 -/
/-- is there one from i on, within k steps? -/
def ex1 (p : Nat → Bool) : Nat → Nat → Int32
  | 0, _ => 0
  | k + 1, i => if p i = true then 1 else ex1 p k (i + 1)
/-- the i-th part's value is below the one's before it, by c -/
def pst (I A : Nat → Nat → Int32) (q v j : Nat) : Bool := decide (pv A q v j ≠ -1 ∧ pv A q v (j + 1) ≠ -1 ∧ pv A q v (j + 1) < pv A q v j + I q 1)
def ab (x : Int32) : Int32 := if 0 ≤ x then x else 0 - x
def pnr (A : Nat → Nat → Int32) (q v : Nat) (d : Int32) (i j : Nat) : Bool := decide (pv A q v j ≠ -1 ∧ ab (pv A q v i - pv A q v j) < d)
def pna (A : Nat → Nat → Int32) (q v n : Nat) (d : Int32) (i : Nat) : Bool := decide (pv A q v i ≠ -1 ∧ ex1 (pnr A q v d i) (n - (i + 1)) (i + 1) = 1)
def pov (I A : Nat → Nat → Int32) (q v n : Nat) (x : Nat) : Bool := decide (I q 1 < sm (tv A q v (nI x)) n 0 (sm (to A q v) n 0 0))
theorem nar01 {x : Int32} (h : x = 0 ∨ x = 1) : narrow .boolean (.int x) = .int x := by rcases h with rfl | rfl <;> rfl
theorem ex1_01 (p : Nat → Bool) : ∀ k i, ex1 p k i = 0 ∨ ex1 p k i = 1
  | 0, _ => Or.inl rfl
  | k + 1, i => by
    unfold ex1
    by_cases h : p i = true
    · rw [if_pos h]; exact Or.inr rfl
    · rw [if_neg h]; exact ex1_01 p k (i + 1)

set_option maxHeartbeats 4000000 in
set_option maxRecDepth 100000 in
/-- what a rule tells -/
theorem c_X2_tell (l : Launch) (D : va_G) (K : Nat → ClassId) (ad : Nat → Nat) (hap0 : apart ad (fun _ => True)) (q : Nat) (hq : RuAt q) (w : Int32) (I : Nat → Nat → Int32) (G : Nat → Nat → Nat) (A : Nat → Nat → Int32) (L : Nat → Nat → Int64)  : Ci l D K ad yX2_tell wsX2_tell 1 40 [.ref (ad q), .int w] (I, G, A, L) (fun (r : Int32) (u : Mem) => r = (if w = 2 then I q 0 else if w = 3 then I q 1 else I q 2) ∧ u = (I, G, A, L)) := by
  intro sz
  refine Met.ofW (cc := cX2_tell) (maxL := 2) (ret := (some .int)) (by decide) rfl ?_
  intro p e s m args below meth c s₁ Bd hml hv0
  obtain ⟨rfl, hsz, hP, hK⟩ := hv0
  have hx := Bd.exec
  have hb := Bd.bytes
  have hr := Bd.returns
  have hts := atoms_spec (ws := wsX2_tell) Bd.pre
  have hown : s.vm.findClass RX2 = some m.cls := findClass_of_methodNamed Bd.named
  have hlocks := Bd.notSynchronized
  have hi2 : ∀ w ∈ u_ws RX2 TX2 7, w ∈ wsX2_tell := fun w h => List.mem_cons_of_mem _ (List.mem_append_right _ h)
  subst hsz
  have hap := vF_ap hap0 s.heap.size
  have hS : va_S (vF ad s.heap.size) s.heap s.heap [] := va_S.rf
  have hP : va_P D vwCl (VW K ad I G A L) s.heap := hP
  have hl := lv_entry ([.ref (ad q), .int w]) (n := 2) (Nat.le_of_ble_eq_true rfl)
  rw [lg_entry_eq]
  generalize (lg_sl ([.ref (ad q), .int w]) ++ List.replicate (2 - (lg_sl ([.ref (ad q), .int w])).length) Slot.unset).toArray = ls at hl ⊢
  have hl : lv_has ls 2 [(0, .ref (ad q)), (1, .int w)] := hl
  refine lv_iload_n hx hb dX2_tell_0 rfl (lv_at hl 1 rfl) ?_
  refine lv_iconst (v := 2) hx hb dX2_tell_1 (by decide) ?_
  refine lv_icmp_ne (tgt := 10) hx hb dX2_tell_2 (by decide) (fun c_1 => ?_) (fun c_1 => ?_)
  · refine lv_iload_n hx hb dX2_tell_10 rfl (lv_at hl 1 rfl) ?_
    refine lv_iconst (v := 3) hx hb dX2_tell_11 (by decide) ?_
    refine lv_icmp_ne (tgt := 22) hx hb dX2_tell_12 (by decide) (fun c_2 => ?_) (fun c_2 => ?_)
    · refine lv_aload_n hx hb dX2_tell_22 rfl (lv_at hl 0 rfl) ?_
      refine vgI hx hb hts hi2 hown hK hP (q) (by have := hq.1; omega) hq.2.1 (C := RX2) (T := TX2) (N := 7) rfl 2 (by decide) (by decide) (by decide) (by decide) (hts (.fieldLink RX2 18 "CrateHelpers$Rule" "parts" "I") (by decide +kernel)) (fun _ h9 => h9) dX2_tell_23 ?_
      exact W.iret (v := (I q 2)) hx hb hr (fun t ht hW => ⟨⟨(I q 2), (I, G, A, L), rfl, ⟨by simp [c_1, c_2], rfl⟩, by rw [ht]; exact hP, va_K.moved hW.alike hK⟩, hS.F ht⟩) hS.2.2 dX2_tell_26
    · refine lv_aload_n hx hb dX2_tell_15 rfl (lv_at hl 0 rfl) ?_
      refine vgI hx hb hts hi2 hown hK hP (q) (by have := hq.1; omega) hq.2.1 (C := RX2) (T := TX2) (N := 7) rfl 1 (by decide) (by decide) (by decide) (by decide) (hts (.fieldLink RX2 15 "CrateHelpers$Rule" "c" "I") (by decide +kernel)) (fun _ h9 => h9) dX2_tell_16 ?_
      refine lv_goto (tgt := 26) hx hb dX2_tell_19 (by decide) ?_
      exact W.iret (v := (I q 1)) hx hb hr (fun t ht hW => ⟨⟨(I q 1), (I, G, A, L), rfl, ⟨by simp [c_1, c_2], rfl⟩, by rw [ht]; exact hP, va_K.moved hW.alike hK⟩, hS.F ht⟩) hS.2.2 dX2_tell_26
  · refine lv_aload_n hx hb dX2_tell_5 rfl (lv_at hl 0 rfl) ?_
    refine vgI hx hb hts hi2 hown hK hP (q) (by have := hq.1; omega) hq.2.1 (C := RX2) (T := TX2) (N := 7) rfl 0 (by decide) (by decide) (by decide) (by decide) (hts (.fieldLink RX2 9 "CrateHelpers$Rule" "kind" "I") (by decide +kernel)) (fun _ h9 => h9) dX2_tell_6 ?_
    exact W.iret (v := (I q 0)) hx hb hr (fun t ht hW => ⟨⟨(I q 0), (I, G, A, L), rfl, ⟨by simp [c_1], rfl⟩, by rw [ht]; exact hP, va_K.moved hW.alike hK⟩, hS.F ht⟩) hS.2.2 dX2_tell_9

set_option maxHeartbeats 4000000 in
set_option maxRecDepth 100000 in
/-- how many are willing -/
theorem c_X2_willing (l : Launch) (D : va_G) (K : Nat → ClassId) (ad : Nat → Nat) (hap0 : apart ad (fun _ => True)) (q v z n : Nat) (hq : RuAt q) (hv : IA v 6) (hz : IA z 6) (I : Nat → Nat → Int32) (G : Nat → Nat → Nat) (A : Nat → Nat → Int32) (L : Nat → Nat → Int64) (hw : RuW I A q n) : Ci l D K ad yX2_willing wsX2_willing 1 40 [.ref (ad q), .ref (ad v)] (I, G, A, L) (fun (r : Int32) (u : Mem) => r = sm (tw A q v) n 0 0 ∧ u = (I, G, A, L)) := by
  intro sz
  refine Met.ofW (cc := cX2_willing) (maxL := 5) (ret := (some .int)) (by decide) rfl ?_
  intro p e s m args below meth c s₁ Bd hml hv0
  obtain ⟨rfl, hsz, hP, hK⟩ := hv0
  have hx := Bd.exec
  have hb := Bd.bytes
  have hr := Bd.returns
  have hts := atoms_spec (ws := wsX2_willing) Bd.pre
  have hown : s.vm.findClass RX2 = some m.cls := findClass_of_methodNamed Bd.named
  have hlocks := Bd.notSynchronized
  have hi2 : ∀ w ∈ u_ws RX2 TX2 7, w ∈ wsX2_willing := fun w h => List.mem_cons_of_mem _ (List.mem_append_right _ h)
  subst hsz
  have hap := vF_ap hap0 s.heap.size
  have hS : va_S (vF ad s.heap.size) s.heap s.heap [] := va_S.rf
  have hP : va_P D vwCl (VW K ad I G A L) s.heap := hP
  have hl := lv_entry ([.ref (ad q), .ref (ad v)]) (n := 5) (Nat.le_of_ble_eq_true rfl)
  rw [lg_entry_eq]
  generalize (lg_sl ([.ref (ad q), .ref (ad v)]) ++ List.replicate (5 - (lg_sl ([.ref (ad q), .ref (ad v)])).length) Slot.unset).toArray = ls at hl ⊢
  have hl : lv_has ls 5 [(0, .ref (ad q)), (1, .ref (ad v))] := hl
  have hn6 : n ≤ 6 := hw.1
  have hpn : I q 2 = nI n := hw.2.1
  refine lv_iconst (v := 0) hx hb dX2_willing_0 (by decide) ?_
  refine lv_istore_n (lv' := [(2, .int 0), (0, .ref (ad q)), (1, .ref (ad v))]) hx hb dX2_willing_1 rfl hl (by decide) rfl (fun ls hl => ?_)
  refine lv_iconst (v := 0) hx hb dX2_willing_2 (by decide) ?_
  refine lv_istore_n (lv' := [(3, .int 0), (2, .int 0), (0, .ref (ad q)), (1, .ref (ad v))]) hx hb dX2_willing_3 rfl hl (by decide) rfl (fun ls hl => ?_)
  have kx1 : ∀ (a : Int32), sm (tw A q v) 0 n a = sm (tw A q v) n 0 0 → ∀ (H : Heap) (locs : List Loc), va_P D vwCl (VW K ad I G A L) H → va_S (vF ad s.heap.size) s.heap H locs → ∀ (ls : Array Slot), lv_has ls 5 [(3, .int (nI n)), (2, .int a), (0, .ref (ad q)), (1, .ref (ad v))] → W p l e ({ frames := 1, cells := 0, slots := 0, locals := 40 }) s m ([.ref (ad q), .ref (ad v)] : List Value).toArray below meth c H locs 0 0 (MQ below (va_Qi (fun (r : Int32) (u : Mem) => r = sm (tw A q v) n 0 0 ∧ u = (I, G, A, L)) (vB D K ad) (vF ad s.heap.size)) ([.ref (ad q), .ref (ad v)] : List Value).toArray s 0 0 (vF ad s.heap.size)) (F0 m 48 ls []) := by
    intro a hinv1 H locs hP hS ls hl
    refine lv_iload_n hx hb dX2_willing_48 rfl (lv_at hl 1 rfl) ?_
    exact W.iret (v := a) hx hb hr (fun t ht hW => ⟨⟨a, (I, G, A, L), rfl, ⟨hinv1, rfl⟩, by rw [ht]; exact hP, va_K.moved hW.alike hK⟩, hS.F ht⟩) hS.2.2 dX2_willing_49
  have lp1 : ∀ (k1 i : Nat) (a : Int32), i + k1 = n → sm (tw A q v) k1 i a = sm (tw A q v) n 0 0 → ∀ (H : Heap) (locs : List Loc), va_P D vwCl (VW K ad I G A L) H → va_S (vF ad s.heap.size) s.heap H locs → ∀ (ls : Array Slot), lv_has ls 5 [(3, .int (nI i)), (2, .int a), (0, .ref (ad q)), (1, .ref (ad v))] → W p l e ({ frames := 1, cells := 0, slots := 0, locals := 40 }) s m ([.ref (ad q), .ref (ad v)] : List Value).toArray below meth c H locs 0 0 (MQ below (va_Qi (fun (r : Int32) (u : Mem) => r = sm (tw A q v) n 0 0 ∧ u = (I, G, A, L)) (vB D K ad) (vF ad s.heap.size)) ([.ref (ad q), .ref (ad v)] : List Value).toArray s 0 0 (vF ad s.heap.size)) (F0 m 4 ls []) := by
    intro k1
    induction k1 with
    | zero =>
      intro i a hk1 hinv1 H locs hP hS ls hl
      obtain rfl : n = i := by omega
      refine lv_iload_n hx hb dX2_willing_4 rfl (lv_at hl 0 rfl) ?_
      refine lv_aload_n hx hb dX2_willing_5 rfl (lv_at hl 2 rfl) ?_
      refine vgI hx hb hts hi2 hown hK hP (q) (by have := hq.1; omega) hq.2.1 (C := RX2) (T := TX2) (N := 7) rfl 2 (by decide) (by decide) (by decide) (by decide) (hts (.fieldLink RX2 18 "CrateHelpers$Rule" "parts" "I") (by decide +kernel)) (fun _ h9 => h9) dX2_willing_6 ?_
      rw [hpn]
      refine lv_icmp_ge (tgt := 48) hx hb dX2_willing_9 (by decide) (fun _ => ?_) (fun c_2 => absurd (nI_le (Nat.le_refl _) (by omega)) c_2)
      exact kx1 a (hinv1) H locs hP hS ls (lv_sub hl [0, 1, 2, 3] rfl)
    | succ k1 ih1 =>
      intro i a hk1 hinv1 H locs hP hS ls hl
      have hlt1 : i < n := by omega
      have hi11 : vp_in (nI i) (ln (q + 1)) := by rw [hq.2.2.2.2.2.2.1]; exact vp_in_nI (by omega) (by omega)
      have hi21 : vp_in (nI i) (ln (q + 2)) := by rw [hq.2.2.2.2.2.2.2.1]; exact vp_in_nI (by omega) (by omega)
      have hv11 : vp_in (A (q + 1) i) (ln v) := by rw [hv.2.2]; exact hw.2.2 i (by omega)
      have hz11 : vp_in (A (q + 1) i) (ln z) := by rw [hz.2.2]; exact hw.2.2 i (by omega)
      refine lv_iload_n hx hb dX2_willing_4 rfl (lv_at hl 0 rfl) ?_
      refine lv_aload_n hx hb dX2_willing_5 rfl (lv_at hl 2 rfl) ?_
      refine vgI hx hb hts hi2 hown hK hP (q) (by have := hq.1; omega) hq.2.1 (C := RX2) (T := TX2) (N := 7) rfl 2 (by decide) (by decide) (by decide) (by decide) (hts (.fieldLink RX2 18 "CrateHelpers$Rule" "parts" "I") (by decide +kernel)) (fun _ h9 => h9) dX2_willing_6 ?_
      rw [hpn]
      refine lv_icmp_ge (tgt := 48) hx hb dX2_willing_9 (by decide) (fun c_3 => absurd c_3 (nI_ge (by omega) (by omega))) (fun _ => ?_)
      refine lv_aload_n hx hb dX2_willing_12 rfl (lv_at hl 3 rfl) ?_
      refine lv_aload_n hx hb dX2_willing_13 rfl (lv_at hl 2 rfl) ?_
      refine vgS hx hb hts hi2 hown hK hP (q) (by have := hq.1; omega) hq.2.1 (C := RX2) (T := TX2) (N := 7) rfl 3 (by decide) (by decide) (by decide) (by decide) (q + 1) rfl (hts (.fieldLink RX2 21 "CrateHelpers$Rule" "variables" "[I") (by decide +kernel)) (fun _ h9 => h9) dX2_willing_14 ?_
      refine lv_iload_n hx hb dX2_willing_17 rfl (lv_at hl 0 rfl) ?_
      refine xiald hx hb hK hP (q + 1) (by have := hq.1; omega) hq.2.2.1 hi11 dX2_willing_18 ?_
      rw [nI_clamp (n := i) (by omega)]
      refine xiald hx hb hK hP (v) hv.1 hv.2.1 hv11 dX2_willing_19 ?_
      refine lv_istore (lv' := [(4, .int (A v ((A (q + 1) i).toNatClampNeg))), (3, .int (nI i)), (2, .int a), (0, .ref (ad q)), (1, .ref (ad v))]) hx hb dX2_willing_20 hl (by decide) rfl (fun ls hl => ?_)
      refine lv_iload hx hb dX2_willing_22 (lv_at hl 0 rfl) ?_
      refine lv_iconst (v := (-1)) hx hb dX2_willing_24 (by decide) ?_
      refine lv_icmp_eq (tgt := 39) hx hb dX2_willing_25 (by decide) (fun c_4 => ?_) (fun c_4 => ?_)
      · refine lv_iinc (v := (a + 1)) (lv' := [(2, .int (a + 1)), (4, .int (A v ((A (q + 1) i).toNatClampNeg))), (3, .int (nI i)), (0, .ref (ad q)), (1, .ref (ad v))]) hx hb dX2_willing_39 hl (k := 2) rfl rfl (by decide) rfl (fun ls hl => ?_)
        refine lv_iinc (v := (nI (i + 1))) (lv' := [(3, .int (nI (i + 1))), (2, .int (a + 1)), (4, .int (A v ((A (q + 1) i).toNatClampNeg))), (0, .ref (ad q)), (1, .ref (ad v))]) hx hb dX2_willing_42 hl (k := 2) rfl (nI_1 i) (by decide) rfl (fun ls hl => ?_)
        refine lv_goto (tgt := 4) hx hb dX2_willing_45 (by decide) ?_
        exact ih1 (i + 1) (a + 1) (by omega) (by rw [← hinv1]; simp [sm, tw, pv, c_4]) H locs hP hS ls (lv_sub hl [0, 1, 3, 4] rfl)
      · refine lv_iload hx hb dX2_willing_28 (lv_at hl 0 rfl) ?_
        refine lv_aload_n hx hb dX2_willing_30 rfl (lv_at hl 3 rfl) ?_
        refine vgS hx hb hts hi2 hown hK hP (q) (by have := hq.1; omega) hq.2.1 (C := RX2) (T := TX2) (N := 7) rfl 4 (by decide) (by decide) (by decide) (by decide) (q + 2) rfl (hts (.fieldLink RX2 25 "CrateHelpers$Rule" "weights" "[I") (by decide +kernel)) (fun _ h9 => h9) dX2_willing_31 ?_
        refine lv_iload_n hx hb dX2_willing_34 rfl (lv_at hl 1 rfl) ?_
        refine xiald hx hb hK hP (q + 2) (by have := hq.1; omega) hq.2.2.2.1 hi21 dX2_willing_35 ?_
        rw [nI_clamp (n := i) (by omega)]
        refine lv_icmp_ne (tgt := 42) hx hb dX2_willing_36 (by decide) (fun c_5 => ?_) (fun c_5 => ?_)
        · refine lv_iinc (v := (nI (i + 1))) (lv' := [(3, .int (nI (i + 1))), (4, .int (A v ((A (q + 1) i).toNatClampNeg))), (2, .int a), (0, .ref (ad q)), (1, .ref (ad v))]) hx hb dX2_willing_42 hl (k := 1) rfl (nI_1 i) (by decide) rfl (fun ls hl => ?_)
          refine lv_goto (tgt := 4) hx hb dX2_willing_45 (by decide) ?_
          exact ih1 (i + 1) a (by omega) (by rw [← hinv1]; simp [sm, tw, pv, c_4, c_5]) H locs hP hS ls (lv_sub hl [0, 2, 3, 4] rfl)
        · refine lv_iinc (v := (a + 1)) (lv' := [(2, .int (a + 1)), (4, .int (A v ((A (q + 1) i).toNatClampNeg))), (3, .int (nI i)), (0, .ref (ad q)), (1, .ref (ad v))]) hx hb dX2_willing_39 hl (k := 2) rfl rfl (by decide) rfl (fun ls hl => ?_)
          refine lv_iinc (v := (nI (i + 1))) (lv' := [(3, .int (nI (i + 1))), (2, .int (a + 1)), (4, .int (A v ((A (q + 1) i).toNatClampNeg))), (0, .ref (ad q)), (1, .ref (ad v))]) hx hb dX2_willing_42 hl (k := 2) rfl (nI_1 i) (by decide) rfl (fun ls hl => ?_)
          refine lv_goto (tgt := 4) hx hb dX2_willing_45 (by decide) ?_
          exact ih1 (i + 1) (a + 1) (by omega) (by rw [← hinv1]; simp [sm, tw, pv, c_4, c_5]) H locs hP hS ls (lv_sub hl [0, 1, 3, 4] rfl)
  exact lp1 (n) 0 0 (by omega) (rfl) _ _ hP hS ls (lv_sub hl [0, 1, 2, 3] rfl)

set_option maxHeartbeats 4000000 in
set_option maxRecDepth 100000 in
/-- does the rule treat both variables alike? -/
theorem c_X2_treatsAlike (l : Launch) (D : va_G) (K : Nat → ClassId) (ad : Nat → Nat) (hap0 : apart ad (fun _ => True)) (q x y : Nat) (hq : RuAt q) (hx6 : x < 6) (hy6 : y < 6) (I : Nat → Nat → Int32) (G : Nat → Nat → Nat) (A : Nat → Nat → Int32) (L : Nat → Nat → Int64)  : Ci l D K ad yX2_treatsAlike wsX2_treatsAlike 1 40 [.ref (ad q), .int (nI x), .int (nI y)] (I, G, A, L) (fun (r : Int32) (u : Mem) => r = (if (A (q + 3) x = 0 ∧ A (q + 3) y = 0) ∨ (I q 0 ≠ 6 ∧ A (q + 3) x ≠ 0 ∧ A (q + 3) y ≠ 0 ∧ A (q + 4) x = A (q + 4) y) then 1 else 0) ∧ u = (I, G, A, L)) := by
  intro sz
  refine Met.ofW (cc := cX2_treatsAlike) (maxL := 3) (ret := (some .boolean)) (by decide) rfl ?_
  intro p e s m args below meth c s₁ Bd hml hv0
  obtain ⟨rfl, hsz, hP, hK⟩ := hv0
  have hx := Bd.exec
  have hb := Bd.bytes
  have hr := Bd.returns
  have hts := atoms_spec (ws := wsX2_treatsAlike) Bd.pre
  have hown : s.vm.findClass RX2 = some m.cls := findClass_of_methodNamed Bd.named
  have hlocks := Bd.notSynchronized
  have hi2 : ∀ w ∈ u_ws RX2 TX2 7, w ∈ wsX2_treatsAlike := fun w h => List.mem_cons_of_mem _ (List.mem_append_right _ h)
  subst hsz
  have hap := vF_ap hap0 s.heap.size
  have hS : va_S (vF ad s.heap.size) s.heap s.heap [] := va_S.rf
  have hP : va_P D vwCl (VW K ad I G A L) s.heap := hP
  have hl := lv_entry ([.ref (ad q), .int (nI x), .int (nI y)]) (n := 3) (Nat.le_of_ble_eq_true rfl)
  rw [lg_entry_eq]
  generalize (lg_sl ([.ref (ad q), .int (nI x), .int (nI y)]) ++ List.replicate (3 - (lg_sl ([.ref (ad q), .int (nI x), .int (nI y)])).length) Slot.unset).toArray = ls at hl ⊢
  have hl : lv_has ls 3 [(0, .ref (ad q)), (1, .int (nI x)), (2, .int (nI y))] := hl
  have hx3 : vp_in (nI x) (ln (q + 3)) := by rw [hq.2.2.2.2.2.2.2.2.1]; exact vp_in_nI hx6 (by omega)
  have hy3 : vp_in (nI y) (ln (q + 3)) := by rw [hq.2.2.2.2.2.2.2.2.1]; exact vp_in_nI hy6 (by omega)
  have hx4 : vp_in (nI x) (ln (q + 4)) := by rw [hq.2.2.2.2.2.2.2.2.2]; exact vp_in_nI hx6 (by omega)
  have hy4 : vp_in (nI y) (ln (q + 4)) := by rw [hq.2.2.2.2.2.2.2.2.2]; exact vp_in_nI hy6 (by omega)
  refine lv_aload_n hx hb dX2_treatsAlike_0 rfl (lv_at hl 0 rfl) ?_
  refine vgS hx hb hts hi2 hown hK hP (q) (by have := hq.1; omega) hq.2.1 (C := RX2) (T := TX2) (N := 7) rfl 5 (by decide) (by decide) (by decide) (by decide) (q + 3) rfl (hts (.fieldLink RX2 28 "CrateHelpers$Rule" "isPart" "[Z") (by decide +kernel)) (fun _ h9 => h9) dX2_treatsAlike_1 ?_
  refine lv_iload_n hx hb dX2_treatsAlike_4 rfl (lv_at hl 1 rfl) ?_
  refine xzald hx hb hK hP (q + 3) (by have := hq.1; omega) hq.2.2.2.2.1 hx3 dX2_treatsAlike_5 ?_
  rw [nI_clamp (n := x) (by omega)]
  refine lv_if_ne (tgt := 20) hx hb dX2_treatsAlike_6 (by decide) (fun c_1 => ?_) (fun c_1 => ?_)
  · refine lv_aload_n hx hb dX2_treatsAlike_20 rfl (lv_at hl 0 rfl) ?_
    refine vgI hx hb hts hi2 hown hK hP (q) (by have := hq.1; omega) hq.2.1 (C := RX2) (T := TX2) (N := 7) rfl 0 (by decide) (by decide) (by decide) (by decide) (hts (.fieldLink RX2 9 "CrateHelpers$Rule" "kind" "I") (by decide +kernel)) (fun _ h9 => h9) dX2_treatsAlike_21 ?_
    refine lv_bipush (v := 6) hx hb dX2_treatsAlike_24 (by decide) ?_
    refine lv_icmp_eq (tgt := 66) hx hb dX2_treatsAlike_26 (by decide) (fun c_2 => ?_) (fun c_2 => ?_)
    · refine lv_iconst (v := 0) hx hb dX2_treatsAlike_66 (by decide) ?_
      exact W.zret (v := 0) hx hb hr (by decide) (fun t ht hW => ⟨⟨0, (I, G, A, L), rfl, ⟨by first | (simp [c_1, c_2]; done) | exact absurd c_1 c_2 | exact absurd c_2 c_1, rfl⟩, by rw [ht]; exact hP, va_K.moved hW.alike hK⟩, hS.F ht⟩) hS.2.2 dX2_treatsAlike_67
    · refine lv_aload_n hx hb dX2_treatsAlike_29 rfl (lv_at hl 0 rfl) ?_
      refine vgS hx hb hts hi2 hown hK hP (q) (by have := hq.1; omega) hq.2.1 (C := RX2) (T := TX2) (N := 7) rfl 5 (by decide) (by decide) (by decide) (by decide) (q + 3) rfl (hts (.fieldLink RX2 28 "CrateHelpers$Rule" "isPart" "[Z") (by decide +kernel)) (fun _ h9 => h9) dX2_treatsAlike_30 ?_
      refine lv_iload_n hx hb dX2_treatsAlike_33 rfl (lv_at hl 1 rfl) ?_
      refine xzald hx hb hK hP (q + 3) (by have := hq.1; omega) hq.2.2.2.2.1 hx3 dX2_treatsAlike_34 ?_
      rw [nI_clamp (n := x) (by omega)]
      refine lv_if_eq (tgt := 66) hx hb dX2_treatsAlike_35 (by decide) (fun c_3 => ?_) (fun c_3 => ?_)
      · refine lv_iconst (v := 0) hx hb dX2_treatsAlike_66 (by decide) ?_
        exact W.zret (v := 0) hx hb hr (by decide) (fun t ht hW => ⟨⟨0, (I, G, A, L), rfl, ⟨by first | (simp [c_1, c_2, c_3]; done) | exact absurd c_1 c_2 | exact absurd c_1 c_3 | exact absurd c_2 c_1 | exact absurd c_2 c_3 | exact absurd c_3 c_1 | exact absurd c_3 c_2, rfl⟩, by rw [ht]; exact hP, va_K.moved hW.alike hK⟩, hS.F ht⟩) hS.2.2 dX2_treatsAlike_67
      · refine lv_aload_n hx hb dX2_treatsAlike_38 rfl (lv_at hl 0 rfl) ?_
        refine vgS hx hb hts hi2 hown hK hP (q) (by have := hq.1; omega) hq.2.1 (C := RX2) (T := TX2) (N := 7) rfl 5 (by decide) (by decide) (by decide) (by decide) (q + 3) rfl (hts (.fieldLink RX2 28 "CrateHelpers$Rule" "isPart" "[Z") (by decide +kernel)) (fun _ h9 => h9) dX2_treatsAlike_39 ?_
        refine lv_iload_n hx hb dX2_treatsAlike_42 rfl (lv_at hl 2 rfl) ?_
        refine xzald hx hb hK hP (q + 3) (by have := hq.1; omega) hq.2.2.2.2.1 hy3 dX2_treatsAlike_43 ?_
        rw [nI_clamp (n := y) (by omega)]
        refine lv_if_eq (tgt := 66) hx hb dX2_treatsAlike_44 (by decide) (fun c_4 => ?_) (fun c_4 => ?_)
        · refine lv_iconst (v := 0) hx hb dX2_treatsAlike_66 (by decide) ?_
          exact W.zret (v := 0) hx hb hr (by decide) (fun t ht hW => ⟨⟨0, (I, G, A, L), rfl, ⟨by first | (simp [c_1, c_2, c_3, c_4]; done) | exact absurd c_1 c_2 | exact absurd c_1 c_3 | exact absurd c_1 c_4 | exact absurd c_2 c_1 | exact absurd c_2 c_3 | exact absurd c_2 c_4 | exact absurd c_3 c_1 | exact absurd c_3 c_2 | exact absurd c_3 c_4 | exact absurd c_4 c_1 | exact absurd c_4 c_2 | exact absurd c_4 c_3, rfl⟩, by rw [ht]; exact hP, va_K.moved hW.alike hK⟩, hS.F ht⟩) hS.2.2 dX2_treatsAlike_67
        · refine lv_aload_n hx hb dX2_treatsAlike_47 rfl (lv_at hl 0 rfl) ?_
          refine vgS hx hb hts hi2 hown hK hP (q) (by have := hq.1; omega) hq.2.1 (C := RX2) (T := TX2) (N := 7) rfl 6 (by decide) (by decide) (by decide) (by decide) (q + 4) rfl (hts (.fieldLink RX2 32 "CrateHelpers$Rule" "weightOf" "[I") (by decide +kernel)) (fun _ h9 => h9) dX2_treatsAlike_48 ?_
          refine lv_iload_n hx hb dX2_treatsAlike_51 rfl (lv_at hl 1 rfl) ?_
          refine xiald hx hb hK hP (q + 4) (by have := hq.1; omega) hq.2.2.2.2.2.1 hx4 dX2_treatsAlike_52 ?_
          rw [nI_clamp (n := x) (by omega)]
          refine lv_aload_n hx hb dX2_treatsAlike_53 rfl (lv_at hl 0 rfl) ?_
          refine vgS hx hb hts hi2 hown hK hP (q) (by have := hq.1; omega) hq.2.1 (C := RX2) (T := TX2) (N := 7) rfl 6 (by decide) (by decide) (by decide) (by decide) (q + 4) rfl (hts (.fieldLink RX2 32 "CrateHelpers$Rule" "weightOf" "[I") (by decide +kernel)) (fun _ h9 => h9) dX2_treatsAlike_54 ?_
          refine lv_iload_n hx hb dX2_treatsAlike_57 rfl (lv_at hl 2 rfl) ?_
          refine xiald hx hb hK hP (q + 4) (by have := hq.1; omega) hq.2.2.2.2.2.1 hy4 dX2_treatsAlike_58 ?_
          rw [nI_clamp (n := y) (by omega)]
          refine lv_icmp_ne (tgt := 66) hx hb dX2_treatsAlike_59 (by decide) (fun c_5 => ?_) (fun c_5 => ?_)
          · refine lv_iconst (v := 0) hx hb dX2_treatsAlike_66 (by decide) ?_
            exact W.zret (v := 0) hx hb hr (by decide) (fun t ht hW => ⟨⟨0, (I, G, A, L), rfl, ⟨by first | (simp [c_1, c_2, c_3, c_4, c_5]; done) | exact absurd c_1 c_2 | exact absurd c_1 c_3 | exact absurd c_1 c_4 | exact absurd c_1 c_5 | exact absurd c_2 c_1 | exact absurd c_2 c_3 | exact absurd c_2 c_4 | exact absurd c_2 c_5 | exact absurd c_3 c_1 | exact absurd c_3 c_2 | exact absurd c_3 c_4 | exact absurd c_3 c_5 | exact absurd c_4 c_1 | exact absurd c_4 c_2 | exact absurd c_4 c_3 | exact absurd c_4 c_5 | exact absurd c_5 c_1 | exact absurd c_5 c_2 | exact absurd c_5 c_3 | exact absurd c_5 c_4, rfl⟩, by rw [ht]; exact hP, va_K.moved hW.alike hK⟩, hS.F ht⟩) hS.2.2 dX2_treatsAlike_67
          · refine lv_iconst (v := 1) hx hb dX2_treatsAlike_62 (by decide) ?_
            refine lv_goto (tgt := 67) hx hb dX2_treatsAlike_63 (by decide) ?_
            exact W.zret (v := 1) hx hb hr (by decide) (fun t ht hW => ⟨⟨1, (I, G, A, L), rfl, ⟨by first | (simp [c_1, c_2, c_3, c_4, c_5]; done) | exact absurd c_1 c_2 | exact absurd c_1 c_3 | exact absurd c_1 c_4 | exact absurd c_1 c_5 | exact absurd c_2 c_1 | exact absurd c_2 c_3 | exact absurd c_2 c_4 | exact absurd c_2 c_5 | exact absurd c_3 c_1 | exact absurd c_3 c_2 | exact absurd c_3 c_4 | exact absurd c_3 c_5 | exact absurd c_4 c_1 | exact absurd c_4 c_2 | exact absurd c_4 c_3 | exact absurd c_4 c_5 | exact absurd c_5 c_1 | exact absurd c_5 c_2 | exact absurd c_5 c_3 | exact absurd c_5 c_4, rfl⟩, by rw [ht]; exact hP, va_K.moved hW.alike hK⟩, hS.F ht⟩) hS.2.2 dX2_treatsAlike_67
  · refine lv_aload_n hx hb dX2_treatsAlike_9 rfl (lv_at hl 0 rfl) ?_
    refine vgS hx hb hts hi2 hown hK hP (q) (by have := hq.1; omega) hq.2.1 (C := RX2) (T := TX2) (N := 7) rfl 5 (by decide) (by decide) (by decide) (by decide) (q + 3) rfl (hts (.fieldLink RX2 28 "CrateHelpers$Rule" "isPart" "[Z") (by decide +kernel)) (fun _ h9 => h9) dX2_treatsAlike_10 ?_
    refine lv_iload_n hx hb dX2_treatsAlike_13 rfl (lv_at hl 2 rfl) ?_
    refine xzald hx hb hK hP (q + 3) (by have := hq.1; omega) hq.2.2.2.2.1 hy3 dX2_treatsAlike_14 ?_
    rw [nI_clamp (n := y) (by omega)]
    refine lv_if_ne (tgt := 20) hx hb dX2_treatsAlike_15 (by decide) (fun c_6 => ?_) (fun c_6 => ?_)
    · refine lv_aload_n hx hb dX2_treatsAlike_20 rfl (lv_at hl 0 rfl) ?_
      refine vgI hx hb hts hi2 hown hK hP (q) (by have := hq.1; omega) hq.2.1 (C := RX2) (T := TX2) (N := 7) rfl 0 (by decide) (by decide) (by decide) (by decide) (hts (.fieldLink RX2 9 "CrateHelpers$Rule" "kind" "I") (by decide +kernel)) (fun _ h9 => h9) dX2_treatsAlike_21 ?_
      refine lv_bipush (v := 6) hx hb dX2_treatsAlike_24 (by decide) ?_
      refine lv_icmp_eq (tgt := 66) hx hb dX2_treatsAlike_26 (by decide) (fun c_7 => ?_) (fun c_7 => ?_)
      · refine lv_iconst (v := 0) hx hb dX2_treatsAlike_66 (by decide) ?_
        exact W.zret (v := 0) hx hb hr (by decide) (fun t ht hW => ⟨⟨0, (I, G, A, L), rfl, ⟨by first | (simp [c_1, c_6, c_7]; done) | exact absurd c_1 c_6 | exact absurd c_1 c_7 | exact absurd c_6 c_1 | exact absurd c_6 c_7 | exact absurd c_7 c_1 | exact absurd c_7 c_6, rfl⟩, by rw [ht]; exact hP, va_K.moved hW.alike hK⟩, hS.F ht⟩) hS.2.2 dX2_treatsAlike_67
      · refine lv_aload_n hx hb dX2_treatsAlike_29 rfl (lv_at hl 0 rfl) ?_
        refine vgS hx hb hts hi2 hown hK hP (q) (by have := hq.1; omega) hq.2.1 (C := RX2) (T := TX2) (N := 7) rfl 5 (by decide) (by decide) (by decide) (by decide) (q + 3) rfl (hts (.fieldLink RX2 28 "CrateHelpers$Rule" "isPart" "[Z") (by decide +kernel)) (fun _ h9 => h9) dX2_treatsAlike_30 ?_
        refine lv_iload_n hx hb dX2_treatsAlike_33 rfl (lv_at hl 1 rfl) ?_
        refine xzald hx hb hK hP (q + 3) (by have := hq.1; omega) hq.2.2.2.2.1 hx3 dX2_treatsAlike_34 ?_
        rw [nI_clamp (n := x) (by omega)]
        refine lv_if_eq (tgt := 66) hx hb dX2_treatsAlike_35 (by decide) (fun c_8 => ?_) (fun c_8 => ?_)
        · refine lv_iconst (v := 0) hx hb dX2_treatsAlike_66 (by decide) ?_
          exact W.zret (v := 0) hx hb hr (by decide) (fun t ht hW => ⟨⟨0, (I, G, A, L), rfl, ⟨by first | (simp [c_1, c_6, c_7, c_8]; done) | exact absurd c_1 c_6 | exact absurd c_1 c_7 | exact absurd c_1 c_8 | exact absurd c_6 c_1 | exact absurd c_6 c_7 | exact absurd c_6 c_8 | exact absurd c_7 c_1 | exact absurd c_7 c_6 | exact absurd c_7 c_8 | exact absurd c_8 c_1 | exact absurd c_8 c_6 | exact absurd c_8 c_7, rfl⟩, by rw [ht]; exact hP, va_K.moved hW.alike hK⟩, hS.F ht⟩) hS.2.2 dX2_treatsAlike_67
        · refine lv_aload_n hx hb dX2_treatsAlike_38 rfl (lv_at hl 0 rfl) ?_
          refine vgS hx hb hts hi2 hown hK hP (q) (by have := hq.1; omega) hq.2.1 (C := RX2) (T := TX2) (N := 7) rfl 5 (by decide) (by decide) (by decide) (by decide) (q + 3) rfl (hts (.fieldLink RX2 28 "CrateHelpers$Rule" "isPart" "[Z") (by decide +kernel)) (fun _ h9 => h9) dX2_treatsAlike_39 ?_
          refine lv_iload_n hx hb dX2_treatsAlike_42 rfl (lv_at hl 2 rfl) ?_
          refine xzald hx hb hK hP (q + 3) (by have := hq.1; omega) hq.2.2.2.2.1 hy3 dX2_treatsAlike_43 ?_
          rw [nI_clamp (n := y) (by omega)]
          refine lv_if_eq (tgt := 66) hx hb dX2_treatsAlike_44 (by decide) (fun c_9 => ?_) (fun c_9 => ?_)
          · refine lv_iconst (v := 0) hx hb dX2_treatsAlike_66 (by decide) ?_
            exact W.zret (v := 0) hx hb hr (by decide) (fun t ht hW => ⟨⟨0, (I, G, A, L), rfl, ⟨by first | (simp [c_1, c_6, c_7, c_8, c_9]; done) | exact absurd c_1 c_6 | exact absurd c_1 c_7 | exact absurd c_1 c_8 | exact absurd c_1 c_9 | exact absurd c_6 c_1 | exact absurd c_6 c_7 | exact absurd c_6 c_8 | exact absurd c_6 c_9 | exact absurd c_7 c_1 | exact absurd c_7 c_6 | exact absurd c_7 c_8 | exact absurd c_7 c_9 | exact absurd c_8 c_1 | exact absurd c_8 c_6 | exact absurd c_8 c_7 | exact absurd c_8 c_9 | exact absurd c_9 c_1 | exact absurd c_9 c_6 | exact absurd c_9 c_7 | exact absurd c_9 c_8, rfl⟩, by rw [ht]; exact hP, va_K.moved hW.alike hK⟩, hS.F ht⟩) hS.2.2 dX2_treatsAlike_67
          · refine lv_aload_n hx hb dX2_treatsAlike_47 rfl (lv_at hl 0 rfl) ?_
            refine vgS hx hb hts hi2 hown hK hP (q) (by have := hq.1; omega) hq.2.1 (C := RX2) (T := TX2) (N := 7) rfl 6 (by decide) (by decide) (by decide) (by decide) (q + 4) rfl (hts (.fieldLink RX2 32 "CrateHelpers$Rule" "weightOf" "[I") (by decide +kernel)) (fun _ h9 => h9) dX2_treatsAlike_48 ?_
            refine lv_iload_n hx hb dX2_treatsAlike_51 rfl (lv_at hl 1 rfl) ?_
            refine xiald hx hb hK hP (q + 4) (by have := hq.1; omega) hq.2.2.2.2.2.1 hx4 dX2_treatsAlike_52 ?_
            rw [nI_clamp (n := x) (by omega)]
            refine lv_aload_n hx hb dX2_treatsAlike_53 rfl (lv_at hl 0 rfl) ?_
            refine vgS hx hb hts hi2 hown hK hP (q) (by have := hq.1; omega) hq.2.1 (C := RX2) (T := TX2) (N := 7) rfl 6 (by decide) (by decide) (by decide) (by decide) (q + 4) rfl (hts (.fieldLink RX2 32 "CrateHelpers$Rule" "weightOf" "[I") (by decide +kernel)) (fun _ h9 => h9) dX2_treatsAlike_54 ?_
            refine lv_iload_n hx hb dX2_treatsAlike_57 rfl (lv_at hl 2 rfl) ?_
            refine xiald hx hb hK hP (q + 4) (by have := hq.1; omega) hq.2.2.2.2.2.1 hy4 dX2_treatsAlike_58 ?_
            rw [nI_clamp (n := y) (by omega)]
            refine lv_icmp_ne (tgt := 66) hx hb dX2_treatsAlike_59 (by decide) (fun c_10 => ?_) (fun c_10 => ?_)
            · refine lv_iconst (v := 0) hx hb dX2_treatsAlike_66 (by decide) ?_
              exact W.zret (v := 0) hx hb hr (by decide) (fun t ht hW => ⟨⟨0, (I, G, A, L), rfl, ⟨by first | (simp [c_1, c_6, c_7, c_8, c_9, c_10]; done) | exact absurd c_1 c_6 | exact absurd c_1 c_7 | exact absurd c_1 c_8 | exact absurd c_1 c_9 | exact absurd c_1 c_10 | exact absurd c_6 c_1 | exact absurd c_6 c_7 | exact absurd c_6 c_8 | exact absurd c_6 c_9 | exact absurd c_6 c_10 | exact absurd c_7 c_1 | exact absurd c_7 c_6 | exact absurd c_7 c_8 | exact absurd c_7 c_9 | exact absurd c_7 c_10 | exact absurd c_8 c_1 | exact absurd c_8 c_6 | exact absurd c_8 c_7 | exact absurd c_8 c_9 | exact absurd c_8 c_10 | exact absurd c_9 c_1 | exact absurd c_9 c_6 | exact absurd c_9 c_7 | exact absurd c_9 c_8 | exact absurd c_9 c_10 | exact absurd c_10 c_1 | exact absurd c_10 c_6 | exact absurd c_10 c_7 | exact absurd c_10 c_8 | exact absurd c_10 c_9, rfl⟩, by rw [ht]; exact hP, va_K.moved hW.alike hK⟩, hS.F ht⟩) hS.2.2 dX2_treatsAlike_67
            · refine lv_iconst (v := 1) hx hb dX2_treatsAlike_62 (by decide) ?_
              refine lv_goto (tgt := 67) hx hb dX2_treatsAlike_63 (by decide) ?_
              exact W.zret (v := 1) hx hb hr (by decide) (fun t ht hW => ⟨⟨1, (I, G, A, L), rfl, ⟨by first | (simp [c_1, c_6, c_7, c_8, c_9, c_10]; done) | exact absurd c_1 c_6 | exact absurd c_1 c_7 | exact absurd c_1 c_8 | exact absurd c_1 c_9 | exact absurd c_1 c_10 | exact absurd c_6 c_1 | exact absurd c_6 c_7 | exact absurd c_6 c_8 | exact absurd c_6 c_9 | exact absurd c_6 c_10 | exact absurd c_7 c_1 | exact absurd c_7 c_6 | exact absurd c_7 c_8 | exact absurd c_7 c_9 | exact absurd c_7 c_10 | exact absurd c_8 c_1 | exact absurd c_8 c_6 | exact absurd c_8 c_7 | exact absurd c_8 c_9 | exact absurd c_8 c_10 | exact absurd c_9 c_1 | exact absurd c_9 c_6 | exact absurd c_9 c_7 | exact absurd c_9 c_8 | exact absurd c_9 c_10 | exact absurd c_10 c_1 | exact absurd c_10 c_6 | exact absurd c_10 c_7 | exact absurd c_10 c_8 | exact absurd c_10 c_9, rfl⟩, by rw [ht]; exact hP, va_K.moved hW.alike hK⟩, hS.F ht⟩) hS.2.2 dX2_treatsAlike_67
    · refine lv_iconst (v := 1) hx hb dX2_treatsAlike_18 (by decide) ?_
      exact W.zret (v := 1) hx hb hr (by decide) (fun t ht hW => ⟨⟨1, (I, G, A, L), rfl, ⟨by first | (simp [c_1, c_6]; done) | exact absurd c_1 c_6 | exact absurd c_6 c_1, rfl⟩, by rw [ht]; exact hP, va_K.moved hW.alike hK⟩, hS.F ht⟩) hS.2.2 dX2_treatsAlike_19

set_option maxHeartbeats 4000000 in
set_option maxRecDepth 100000 in
/-- a step below -/
theorem c_X2_hasStepBelow (l : Launch) (D : va_G) (K : Nat → ClassId) (ad : Nat → Nat) (hap0 : apart ad (fun _ => True)) (q v z n : Nat) (hq : RuAt q) (hv : IA v 6) (hz : IA z 6) (I : Nat → Nat → Int32) (G : Nat → Nat → Nat) (A : Nat → Nat → Int32) (L : Nat → Nat → Int64) (hw : RuW I A q n) : Ci l D K ad yX2_hasStepBelow wsX2_hasStepBelow 1 40 [.ref (ad q), .ref (ad v)] (I, G, A, L) (fun (r : Int32) (u : Mem) => r = ex1 (pst I A q v) (n - 1) 0 ∧ u = (I, G, A, L)) := by
  intro sz
  refine Met.ofW (cc := cX2_hasStepBelow) (maxL := 5) (ret := (some .boolean)) (by decide) rfl ?_
  intro p e s m args below meth c s₁ Bd hml hv0
  obtain ⟨rfl, hsz, hP, hK⟩ := hv0
  have hx := Bd.exec
  have hb := Bd.bytes
  have hr := Bd.returns
  have hts := atoms_spec (ws := wsX2_hasStepBelow) Bd.pre
  have hown : s.vm.findClass RX2 = some m.cls := findClass_of_methodNamed Bd.named
  have hlocks := Bd.notSynchronized
  have hi2 : ∀ w ∈ u_ws RX2 TX2 7, w ∈ wsX2_hasStepBelow := fun w h => List.mem_cons_of_mem _ (List.mem_append_right _ h)
  subst hsz
  have hap := vF_ap hap0 s.heap.size
  have hS : va_S (vF ad s.heap.size) s.heap s.heap [] := va_S.rf
  have hP : va_P D vwCl (VW K ad I G A L) s.heap := hP
  have hl := lv_entry ([.ref (ad q), .ref (ad v)]) (n := 5) (Nat.le_of_ble_eq_true rfl)
  rw [lg_entry_eq]
  generalize (lg_sl ([.ref (ad q), .ref (ad v)]) ++ List.replicate (5 - (lg_sl ([.ref (ad q), .ref (ad v)])).length) Slot.unset).toArray = ls at hl ⊢
  have hl : lv_has ls 5 [(0, .ref (ad q)), (1, .ref (ad v))] := hl
  have hn6 : n ≤ 6 := hw.1
  have hpn : I q 2 = nI n := hw.2.1
  refine lv_iconst (v := 1) hx hb dX2_hasStepBelow_0 (by decide) ?_
  refine lv_istore_n (lv' := [(2, .int 1), (0, .ref (ad q)), (1, .ref (ad v))]) hx hb dX2_hasStepBelow_1 rfl hl (by decide) rfl (fun ls hl => ?_)
  have kx1 : ∀ (_ : Unit), ex1 (pst I A q v) 0 (n - 1) = ex1 (pst I A q v) (n - 1) 0 → ∀ (H : Heap) (locs : List Loc), va_P D vwCl (VW K ad I G A L) H → va_S (vF ad s.heap.size) s.heap H locs → ∀ (ls : Array Slot), lv_has ls 5 [(2, .int (nI ((n - 1) + 1))), (0, .ref (ad q)), (1, .ref (ad v))] → W p l e ({ frames := 1, cells := 0, slots := 0, locals := 40 }) s m ([.ref (ad q), .ref (ad v)] : List Value).toArray below meth c H locs 0 0 (MQ below (va_Qi (fun (r : Int32) (u : Mem) => r = ex1 (pst I A q v) (n - 1) 0 ∧ u = (I, G, A, L)) (vB D K ad) (vF ad s.heap.size)) ([.ref (ad q), .ref (ad v)] : List Value).toArray s 0 0 (vF ad s.heap.size)) (F0 m 61 ls []) := by
    intro _ hinv1 H locs hP hS ls hl
    refine lv_iconst (v := 0) hx hb dX2_hasStepBelow_61 (by decide) ?_
    exact W.zret (v := 0) hx hb hr (by decide) (fun t ht hW => ⟨⟨0, (I, G, A, L), rfl, ⟨hinv1, rfl⟩, by rw [ht]; exact hP, va_K.moved hW.alike hK⟩, hS.F ht⟩) hS.2.2 dX2_hasStepBelow_62
  have lp1 : ∀ (k1 j : Nat), j + k1 = (n - 1) → ex1 (pst I A q v) k1 j = ex1 (pst I A q v) (n - 1) 0 → ∀ (H : Heap) (locs : List Loc), va_P D vwCl (VW K ad I G A L) H → va_S (vF ad s.heap.size) s.heap H locs → ∀ (ls : Array Slot), lv_has ls 5 [(2, .int (nI (j + 1))), (0, .ref (ad q)), (1, .ref (ad v))] → W p l e ({ frames := 1, cells := 0, slots := 0, locals := 40 }) s m ([.ref (ad q), .ref (ad v)] : List Value).toArray below meth c H locs 0 0 (MQ below (va_Qi (fun (r : Int32) (u : Mem) => r = ex1 (pst I A q v) (n - 1) 0 ∧ u = (I, G, A, L)) (vB D K ad) (vF ad s.heap.size)) ([.ref (ad q), .ref (ad v)] : List Value).toArray s 0 0 (vF ad s.heap.size)) (F0 m 2 ls []) := by
    intro k1
    induction k1 with
    | zero =>
      intro j  hk1 hinv1 H locs hP hS ls hl
      obtain rfl : (n - 1) = j := by omega
      refine lv_iload_n hx hb dX2_hasStepBelow_2 rfl (lv_at hl 0 rfl) ?_
      refine lv_aload_n hx hb dX2_hasStepBelow_3 rfl (lv_at hl 1 rfl) ?_
      refine vgI hx hb hts hi2 hown hK hP (q) (by have := hq.1; omega) hq.2.1 (C := RX2) (T := TX2) (N := 7) rfl 2 (by decide) (by decide) (by decide) (by decide) (hts (.fieldLink RX2 18 "CrateHelpers$Rule" "parts" "I") (by decide +kernel)) (fun _ h9 => h9) dX2_hasStepBelow_4 ?_
      rw [hpn]
      refine lv_icmp_ge (tgt := 61) hx hb dX2_hasStepBelow_7 (by decide) (fun _ => ?_) (fun c_2 => absurd (nI_le (by omega) (by omega)) c_2)
      exact kx1 () (hinv1) H locs hP hS ls (lv_sub hl [0, 1, 2] rfl)
    | succ k1 ih1 =>
      intro j  hk1 hinv1 H locs hP hS ls hl
      have hlt1 : j < (n - 1) := by omega
      have hnj1 : j + 1 < n := by omega
      have hi101 : vp_in (nI j) (ln (q + 1)) := by rw [hq.2.2.2.2.2.2.1]; exact vp_in_nI (by omega) (by omega)
      have hv101 : vp_in (A (q + 1) j) (ln v) := by rw [hv.2.2]; exact hw.2.2 j (by omega)
      have hi111 : vp_in (nI (j + 1)) (ln (q + 1)) := by rw [hq.2.2.2.2.2.2.1]; exact vp_in_nI (by omega) (by omega)
      have hv111 : vp_in (A (q + 1) (j + 1)) (ln v) := by rw [hv.2.2]; exact hw.2.2 (j + 1) (by omega)
      refine lv_iload_n hx hb dX2_hasStepBelow_2 rfl (lv_at hl 0 rfl) ?_
      refine lv_aload_n hx hb dX2_hasStepBelow_3 rfl (lv_at hl 1 rfl) ?_
      refine vgI hx hb hts hi2 hown hK hP (q) (by have := hq.1; omega) hq.2.1 (C := RX2) (T := TX2) (N := 7) rfl 2 (by decide) (by decide) (by decide) (by decide) (hts (.fieldLink RX2 18 "CrateHelpers$Rule" "parts" "I") (by decide +kernel)) (fun _ h9 => h9) dX2_hasStepBelow_4 ?_
      rw [hpn]
      refine lv_icmp_ge (tgt := 61) hx hb dX2_hasStepBelow_7 (by decide) (fun c_3 => absurd c_3 (nI_ge (by omega) (by omega))) (fun _ => ?_)
      refine lv_aload_n hx hb dX2_hasStepBelow_10 rfl (lv_at hl 2 rfl) ?_
      refine lv_aload_n hx hb dX2_hasStepBelow_11 rfl (lv_at hl 1 rfl) ?_
      refine vgS hx hb hts hi2 hown hK hP (q) (by have := hq.1; omega) hq.2.1 (C := RX2) (T := TX2) (N := 7) rfl 3 (by decide) (by decide) (by decide) (by decide) (q + 1) rfl (hts (.fieldLink RX2 21 "CrateHelpers$Rule" "variables" "[I") (by decide +kernel)) (fun _ h9 => h9) dX2_hasStepBelow_12 ?_
      refine lv_iload_n hx hb dX2_hasStepBelow_15 rfl (lv_at hl 0 rfl) ?_
      refine lv_iconst (v := 1) hx hb dX2_hasStepBelow_16 (by decide) ?_
      refine lv_isub hx hb dX2_hasStepBelow_17 ?_
      rw [nI_pred]
      refine xiald hx hb hK hP (q + 1) (by have := hq.1; omega) hq.2.2.1 hi101 dX2_hasStepBelow_18 ?_
      rw [nI_clamp (n := j) (by omega)]
      refine xiald hx hb hK hP (v) hv.1 hv.2.1 hv101 dX2_hasStepBelow_19 ?_
      refine lv_istore_n (lv' := [(3, .int (A v ((A (q + 1) j).toNatClampNeg))), (2, .int (nI (j + 1))), (0, .ref (ad q)), (1, .ref (ad v))]) hx hb dX2_hasStepBelow_20 rfl hl (by decide) rfl (fun ls hl => ?_)
      refine lv_aload_n hx hb dX2_hasStepBelow_21 rfl (lv_at hl 3 rfl) ?_
      refine lv_aload_n hx hb dX2_hasStepBelow_22 rfl (lv_at hl 2 rfl) ?_
      refine vgS hx hb hts hi2 hown hK hP (q) (by have := hq.1; omega) hq.2.1 (C := RX2) (T := TX2) (N := 7) rfl 3 (by decide) (by decide) (by decide) (by decide) (q + 1) rfl (hts (.fieldLink RX2 21 "CrateHelpers$Rule" "variables" "[I") (by decide +kernel)) (fun _ h9 => h9) dX2_hasStepBelow_23 ?_
      refine lv_iload_n hx hb dX2_hasStepBelow_26 rfl (lv_at hl 1 rfl) ?_
      refine xiald hx hb hK hP (q + 1) (by have := hq.1; omega) hq.2.2.1 hi111 dX2_hasStepBelow_27 ?_
      rw [nI_clamp (n := (j + 1)) (by omega)]
      refine xiald hx hb hK hP (v) hv.1 hv.2.1 hv111 dX2_hasStepBelow_28 ?_
      refine lv_istore (lv' := [(4, .int (A v ((A (q + 1) (j + 1)).toNatClampNeg))), (3, .int (A v ((A (q + 1) j).toNatClampNeg))), (2, .int (nI (j + 1))), (0, .ref (ad q)), (1, .ref (ad v))]) hx hb dX2_hasStepBelow_29 hl (by decide) rfl (fun ls hl => ?_)
      refine lv_iload_n hx hb dX2_hasStepBelow_31 rfl (lv_at hl 1 rfl) ?_
      refine lv_iconst (v := (-1)) hx hb dX2_hasStepBelow_32 (by decide) ?_
      refine lv_icmp_eq (tgt := 55) hx hb dX2_hasStepBelow_33 (by decide) (fun c_4 => ?_) (fun c_4 => ?_)
      · refine lv_iinc (v := (nI (j + 1 + 1))) (lv' := [(2, .int (nI (j + 1 + 1))), (4, .int (A v ((A (q + 1) (j + 1)).toNatClampNeg))), (3, .int (A v ((A (q + 1) j).toNatClampNeg))), (0, .ref (ad q)), (1, .ref (ad v))]) hx hb dX2_hasStepBelow_55 hl (k := 2) rfl (nI_1 (j + 1)) (by decide) rfl (fun ls hl => ?_)
        refine lv_goto (tgt := 2) hx hb dX2_hasStepBelow_58 (by decide) ?_
        exact ih1 (j + 1)  (by omega) (by rw [← hinv1]; simp [ex1, pst, pv, c_4]) H locs hP hS ls (lv_sub hl [0, 3, 4] rfl)
      · refine lv_iload hx hb dX2_hasStepBelow_36 (lv_at hl 0 rfl) ?_
        refine lv_iconst (v := (-1)) hx hb dX2_hasStepBelow_38 (by decide) ?_
        refine lv_icmp_eq (tgt := 55) hx hb dX2_hasStepBelow_39 (by decide) (fun c_5 => ?_) (fun c_5 => ?_)
        · refine lv_iinc (v := (nI (j + 1 + 1))) (lv' := [(2, .int (nI (j + 1 + 1))), (4, .int (A v ((A (q + 1) (j + 1)).toNatClampNeg))), (3, .int (A v ((A (q + 1) j).toNatClampNeg))), (0, .ref (ad q)), (1, .ref (ad v))]) hx hb dX2_hasStepBelow_55 hl (k := 2) rfl (nI_1 (j + 1)) (by decide) rfl (fun ls hl => ?_)
          refine lv_goto (tgt := 2) hx hb dX2_hasStepBelow_58 (by decide) ?_
          exact ih1 (j + 1)  (by omega) (by rw [← hinv1]; simp [ex1, pst, pv, c_4, c_5]) H locs hP hS ls (lv_sub hl [0, 3, 4] rfl)
        · refine lv_iload hx hb dX2_hasStepBelow_42 (lv_at hl 0 rfl) ?_
          refine lv_iload_n hx hb dX2_hasStepBelow_44 rfl (lv_at hl 1 rfl) ?_
          refine lv_aload_n hx hb dX2_hasStepBelow_45 rfl (lv_at hl 3 rfl) ?_
          refine vgI hx hb hts hi2 hown hK hP (q) (by have := hq.1; omega) hq.2.1 (C := RX2) (T := TX2) (N := 7) rfl 1 (by decide) (by decide) (by decide) (by decide) (hts (.fieldLink RX2 15 "CrateHelpers$Rule" "c" "I") (by decide +kernel)) (fun _ h9 => h9) dX2_hasStepBelow_46 ?_
          refine lv_iadd hx hb dX2_hasStepBelow_49 ?_
          refine lv_icmp_ge (tgt := 55) hx hb dX2_hasStepBelow_50 (by decide) (fun c_6 => ?_) (fun c_6 => ?_)
          · refine lv_iinc (v := (nI (j + 1 + 1))) (lv' := [(2, .int (nI (j + 1 + 1))), (4, .int (A v ((A (q + 1) (j + 1)).toNatClampNeg))), (3, .int (A v ((A (q + 1) j).toNatClampNeg))), (0, .ref (ad q)), (1, .ref (ad v))]) hx hb dX2_hasStepBelow_55 hl (k := 2) rfl (nI_1 (j + 1)) (by decide) rfl (fun ls hl => ?_)
            refine lv_goto (tgt := 2) hx hb dX2_hasStepBelow_58 (by decide) ?_
            exact ih1 (j + 1)  (by omega) (by rw [← hinv1]; simp [ex1, pst, pv, c_4, c_5, (Int32.not_lt.mpr c_6)]) H locs hP hS ls (lv_sub hl [0, 3, 4] rfl)
          · refine lv_iconst (v := 1) hx hb dX2_hasStepBelow_53 (by decide) ?_
            exact W.zret (v := 1) hx hb hr (by decide) (fun t ht hW => ⟨⟨1, (I, G, A, L), rfl, ⟨by rw [← hinv1]; simp [ex1, pst, pv, c_4, c_5, (Int32.not_le.mp c_6)], rfl⟩, by rw [ht]; exact hP, va_K.moved hW.alike hK⟩, hS.F ht⟩) hS.2.2 dX2_hasStepBelow_54
  exact lp1 (n - 1) 0  (by omega) (rfl) _ _ hP hS ls (lv_sub hl [0, 1, 2] rfl)

/-! part 23.rule3 -/
set_option maxHeartbeats 4000000 in
set_option maxRecDepth 100000 in
/-- two that are near -/
theorem c_X2_hasNear (l : Launch) (D : va_G) (K : Nat → ClassId) (ad : Nat → Nat) (hap0 : apart ad (fun _ => True)) (q v z n : Nat) (hq : RuAt q) (hv : IA v 6) (hz : IA z 6) (d : Int32) (I : Nat → Nat → Int32) (G : Nat → Nat → Nat) (A : Nat → Nat → Int32) (L : Nat → Nat → Int64) (hw : RuW I A q n) : Ci l D K ad yX2_hasNear wsX2_hasNear 1 40 [.ref (ad q), .ref (ad v), .int d] (I, G, A, L) (fun (r : Int32) (u : Mem) => r = ex1 (pna A q v n d) n 0 ∧ u = (I, G, A, L)) := by
  intro sz
  refine Met.ofW (cc := cX2_hasNear) (maxL := 7) (ret := (some .boolean)) (by decide) rfl ?_
  intro p e s m args below meth c s₁ Bd hml hv0
  obtain ⟨rfl, hsz, hP, hK⟩ := hv0
  have hx := Bd.exec
  have hb := Bd.bytes
  have hr := Bd.returns
  have hts := atoms_spec (ws := wsX2_hasNear) Bd.pre
  have hown : s.vm.findClass RX2 = some m.cls := findClass_of_methodNamed Bd.named
  have hlocks := Bd.notSynchronized
  have hi2 : ∀ w ∈ u_ws RX2 TX2 7, w ∈ wsX2_hasNear := fun w h => List.mem_cons_of_mem _ (List.mem_append_right _ h)
  subst hsz
  have hap := vF_ap hap0 s.heap.size
  have hS : va_S (vF ad s.heap.size) s.heap s.heap [] := va_S.rf
  have hP : va_P D vwCl (VW K ad I G A L) s.heap := hP
  have hl := lv_entry ([.ref (ad q), .ref (ad v), .int d]) (n := 7) (Nat.le_of_ble_eq_true rfl)
  rw [lg_entry_eq]
  generalize (lg_sl ([.ref (ad q), .ref (ad v), .int d]) ++ List.replicate (7 - (lg_sl ([.ref (ad q), .ref (ad v), .int d])).length) Slot.unset).toArray = ls at hl ⊢
  have hl : lv_has ls 7 [(0, .ref (ad q)), (1, .ref (ad v)), (2, .int d)] := hl
  have hn6 : n ≤ 6 := hw.1
  have hpn : I q 2 = nI n := hw.2.1
  refine lv_iconst (v := 0) hx hb dX2_hasNear_0 (by decide) ?_
  refine lv_istore_n (lv' := [(3, .int 0), (0, .ref (ad q)), (1, .ref (ad v)), (2, .int d)]) hx hb dX2_hasNear_1 rfl hl (by decide) rfl (fun ls hl => ?_)
  have kx1 : ∀ (_ : Unit), ex1 (pna A q v n d) 0 n = ex1 (pna A q v n d) n 0 → ∀ (H : Heap) (locs : List Loc), va_P D vwCl (VW K ad I G A L) H → va_S (vF ad s.heap.size) s.heap H locs → ∀ (ls : Array Slot), lv_has ls 7 [(3, .int (nI n)), (0, .ref (ad q)), (1, .ref (ad v)), (2, .int d)] → W p l e ({ frames := 1, cells := 0, slots := 0, locals := 40 }) s m ([.ref (ad q), .ref (ad v), .int d] : List Value).toArray below meth c H locs 0 0 (MQ below (va_Qi (fun (r : Int32) (u : Mem) => r = ex1 (pna A q v n d) n 0 ∧ u = (I, G, A, L)) (vB D K ad) (vF ad s.heap.size)) ([.ref (ad q), .ref (ad v), .int d] : List Value).toArray s 0 0 (vF ad s.heap.size)) (F0 m 83 ls []) := by
    intro _ hinv1 H locs hP hS ls hl
    refine lv_iconst (v := 0) hx hb dX2_hasNear_83 (by decide) ?_
    exact W.zret (v := 0) hx hb hr (by decide) (fun t ht hW => ⟨⟨0, (I, G, A, L), rfl, ⟨hinv1, rfl⟩, by rw [ht]; exact hP, va_K.moved hW.alike hK⟩, hS.F ht⟩) hS.2.2 dX2_hasNear_84
  have lp1 : ∀ (k1 i : Nat), i + k1 = n → ex1 (pna A q v n d) k1 i = ex1 (pna A q v n d) n 0 → ∀ (H : Heap) (locs : List Loc), va_P D vwCl (VW K ad I G A L) H → va_S (vF ad s.heap.size) s.heap H locs → ∀ (ls : Array Slot), lv_has ls 7 [(3, .int (nI i)), (0, .ref (ad q)), (1, .ref (ad v)), (2, .int d)] → W p l e ({ frames := 1, cells := 0, slots := 0, locals := 40 }) s m ([.ref (ad q), .ref (ad v), .int d] : List Value).toArray below meth c H locs 0 0 (MQ below (va_Qi (fun (r : Int32) (u : Mem) => r = ex1 (pna A q v n d) n 0 ∧ u = (I, G, A, L)) (vB D K ad) (vF ad s.heap.size)) ([.ref (ad q), .ref (ad v), .int d] : List Value).toArray s 0 0 (vF ad s.heap.size)) (F0 m 2 ls []) := by
    intro k1
    induction k1 with
    | zero =>
      intro i  hk1 hinv1 H locs hP hS ls hl
      obtain rfl : n = i := by omega
      refine lv_iload_n hx hb dX2_hasNear_2 rfl (lv_at hl 0 rfl) ?_
      refine lv_aload_n hx hb dX2_hasNear_3 rfl (lv_at hl 1 rfl) ?_
      refine vgI hx hb hts hi2 hown hK hP (q) (by have := hq.1; omega) hq.2.1 (C := RX2) (T := TX2) (N := 7) rfl 2 (by decide) (by decide) (by decide) (by decide) (hts (.fieldLink RX2 18 "CrateHelpers$Rule" "parts" "I") (by decide +kernel)) (fun _ h9 => h9) dX2_hasNear_4 ?_
      rw [hpn]
      refine lv_icmp_ge (tgt := 83) hx hb dX2_hasNear_7 (by decide) (fun _ => ?_) (fun c_2 => absurd (nI_le (Nat.le_refl _) (by omega)) c_2)
      exact kx1 () (hinv1) H locs hP hS ls (lv_sub hl [0, 1, 2, 3] rfl)
    | succ k1 ih1 =>
      intro i  hk1 hinv1 H locs hP hS ls hl
      have hlt1 : i < n := by omega
      have hi11 : vp_in (nI i) (ln (q + 1)) := by rw [hq.2.2.2.2.2.2.1]; exact vp_in_nI (by omega) (by omega)
      have hi21 : vp_in (nI i) (ln (q + 2)) := by rw [hq.2.2.2.2.2.2.2.1]; exact vp_in_nI (by omega) (by omega)
      have hv11 : vp_in (A (q + 1) i) (ln v) := by rw [hv.2.2]; exact hw.2.2 i (by omega)
      refine lv_iload_n hx hb dX2_hasNear_2 rfl (lv_at hl 0 rfl) ?_
      refine lv_aload_n hx hb dX2_hasNear_3 rfl (lv_at hl 1 rfl) ?_
      refine vgI hx hb hts hi2 hown hK hP (q) (by have := hq.1; omega) hq.2.1 (C := RX2) (T := TX2) (N := 7) rfl 2 (by decide) (by decide) (by decide) (by decide) (hts (.fieldLink RX2 18 "CrateHelpers$Rule" "parts" "I") (by decide +kernel)) (fun _ h9 => h9) dX2_hasNear_4 ?_
      rw [hpn]
      refine lv_icmp_ge (tgt := 83) hx hb dX2_hasNear_7 (by decide) (fun c_3 => absurd c_3 (nI_ge (by omega) (by omega))) (fun _ => ?_)
      refine lv_aload_n hx hb dX2_hasNear_10 rfl (lv_at hl 2 rfl) ?_
      refine lv_aload_n hx hb dX2_hasNear_11 rfl (lv_at hl 1 rfl) ?_
      refine vgS hx hb hts hi2 hown hK hP (q) (by have := hq.1; omega) hq.2.1 (C := RX2) (T := TX2) (N := 7) rfl 3 (by decide) (by decide) (by decide) (by decide) (q + 1) rfl (hts (.fieldLink RX2 21 "CrateHelpers$Rule" "variables" "[I") (by decide +kernel)) (fun _ h9 => h9) dX2_hasNear_12 ?_
      refine lv_iload_n hx hb dX2_hasNear_15 rfl (lv_at hl 0 rfl) ?_
      refine xiald hx hb hK hP (q + 1) (by have := hq.1; omega) hq.2.2.1 hi11 dX2_hasNear_16 ?_
      rw [nI_clamp (n := i) (by omega)]
      refine xiald hx hb hK hP (v) hv.1 hv.2.1 hv11 dX2_hasNear_17 ?_
      refine lv_istore (lv' := [(4, .int (A v ((A (q + 1) i).toNatClampNeg))), (3, .int (nI i)), (0, .ref (ad q)), (1, .ref (ad v)), (2, .int d)]) hx hb dX2_hasNear_18 hl (by decide) rfl (fun ls hl => ?_)
      refine lv_iload_n hx hb dX2_hasNear_20 rfl (lv_at hl 1 rfl) ?_
      refine lv_iconst (v := 1) hx hb dX2_hasNear_21 (by decide) ?_
      refine lv_iadd hx hb dX2_hasNear_22 ?_
      rw [nI_1]
      refine lv_istore (lv' := [(5, .int (nI (i + 1))), (4, .int (A v ((A (q + 1) i).toNatClampNeg))), (3, .int (nI i)), (0, .ref (ad q)), (1, .ref (ad v)), (2, .int d)]) hx hb dX2_hasNear_23 hl (by decide) rfl (fun ls hl => ?_)
      by_cases hone : (A v ((A (q + 1) i).toNatClampNeg)) = -1
      · refine lv_iload hx hb dX2_hasNear_25 (lv_at hl 0 rfl) ?_
        refine lv_aload_n hx hb dX2_hasNear_27 rfl (lv_at hl 3 rfl) ?_
        refine vgI hx hb hts hi2 hown hK hP (q) (by have := hq.1; omega) hq.2.1 (C := RX2) (T := TX2) (N := 7) rfl 2 (by decide) (by decide) (by decide) (by decide) (hts (.fieldLink RX2 18 "CrateHelpers$Rule" "parts" "I") (by decide +kernel)) (fun _ h9 => h9) dX2_hasNear_28 ?_
        refine lv_icmp_ge (tgt := 77) hx hb dX2_hasNear_31 (by decide) (fun c_4 => ?_) (fun c_4 => ?_)
        · refine lv_iinc (v := (nI (i + 1))) (lv' := [(3, .int (nI (i + 1))), (5, .int (nI (i + 1))), (4, .int (A v ((A (q + 1) i).toNatClampNeg))), (0, .ref (ad q)), (1, .ref (ad v)), (2, .int d)]) hx hb dX2_hasNear_77 hl (k := 2) rfl (nI_1 i) (by decide) rfl (fun ls hl => ?_)
          refine lv_goto (tgt := 2) hx hb dX2_hasNear_80 (by decide) ?_
          exact ih1 (i + 1)  (by omega) (by rw [← hinv1]; simp [ex1, pna, pv, hone]) H locs hP hS ls (lv_sub hl [0, 3, 4, 5] rfl)
        · refine lv_iload hx hb dX2_hasNear_34 (lv_at hl 1 rfl) ?_
          refine lv_iconst (v := (-1)) hx hb dX2_hasNear_36 (by decide) ?_
          refine lv_icmp_eq (tgt := 77) hx hb dX2_hasNear_37 (by decide) (fun _ => ?_) (fun c9 => absurd hone c9)
          refine lv_iinc (v := (nI (i + 1))) (lv' := [(3, .int (nI (i + 1))), (5, .int (nI (i + 1))), (4, .int (A v ((A (q + 1) i).toNatClampNeg))), (0, .ref (ad q)), (1, .ref (ad v)), (2, .int d)]) hx hb dX2_hasNear_77 hl (k := 2) rfl (nI_1 i) (by decide) rfl (fun ls hl => ?_)
          refine lv_goto (tgt := 2) hx hb dX2_hasNear_80 (by decide) ?_
          exact ih1 (i + 1)  (by omega) (by rw [← hinv1]; simp [ex1, pna, pv, hone]) H locs hP hS ls (lv_sub hl [0, 3, 4, 5] rfl)
      · have kx5 : ∀ (_ : Unit), ex1 (pnr A q v d i) 0 n = ex1 (pnr A q v d i) (n - (i + 1)) (i + 1) → ∀ (H : Heap) (locs : List Loc), va_P D vwCl (VW K ad I G A L) H → va_S (vF ad s.heap.size) s.heap H locs → ∀ (ls : Array Slot), lv_has ls 7 [(5, .int (nI n)), (4, .int (A v ((A (q + 1) i).toNatClampNeg))), (3, .int (nI i)), (0, .ref (ad q)), (1, .ref (ad v)), (2, .int d)] → W p l e ({ frames := 1, cells := 0, slots := 0, locals := 40 }) s m ([.ref (ad q), .ref (ad v), .int d] : List Value).toArray below meth c H locs 0 0 (MQ below (va_Qi (fun (r : Int32) (u : Mem) => r = ex1 (pna A q v n d) n 0 ∧ u = (I, G, A, L)) (vB D K ad) (vF ad s.heap.size)) ([.ref (ad q), .ref (ad v), .int d] : List Value).toArray s 0 0 (vF ad s.heap.size)) (F0 m 77 ls []) := by
          intro _ hinv5 H locs hP hS ls hl
          have hinv5 : ex1 (pnr A q v d i) (n - (i + 1)) (i + 1) = 0 := hinv5.symm
          refine lv_iinc (v := (nI (i + 1))) (lv' := [(3, .int (nI (i + 1))), (5, .int (nI n)), (4, .int (A v ((A (q + 1) i).toNatClampNeg))), (0, .ref (ad q)), (1, .ref (ad v)), (2, .int d)]) hx hb dX2_hasNear_77 hl (k := 2) rfl (nI_1 i) (by decide) rfl (fun ls hl => ?_)
          refine lv_goto (tgt := 2) hx hb dX2_hasNear_80 (by decide) ?_
          exact ih1 (i + 1)  (by omega) (by rw [← hinv1]; simp [ex1, pna, pv, hone, hinv5]) H locs hP hS ls (lv_sub hl [0, 3, 4, 5] rfl)
        have lp5 : ∀ (k5 j : Nat), j + k5 = n → ex1 (pnr A q v d i) k5 j = ex1 (pnr A q v d i) (n - (i + 1)) (i + 1) → ∀ (H : Heap) (locs : List Loc), va_P D vwCl (VW K ad I G A L) H → va_S (vF ad s.heap.size) s.heap H locs → ∀ (ls : Array Slot), lv_has ls 7 [(5, .int (nI j)), (4, .int (A v ((A (q + 1) i).toNatClampNeg))), (3, .int (nI i)), (0, .ref (ad q)), (1, .ref (ad v)), (2, .int d)] → W p l e ({ frames := 1, cells := 0, slots := 0, locals := 40 }) s m ([.ref (ad q), .ref (ad v), .int d] : List Value).toArray below meth c H locs 0 0 (MQ below (va_Qi (fun (r : Int32) (u : Mem) => r = ex1 (pna A q v n d) n 0 ∧ u = (I, G, A, L)) (vB D K ad) (vF ad s.heap.size)) ([.ref (ad q), .ref (ad v), .int d] : List Value).toArray s 0 0 (vF ad s.heap.size)) (F0 m 25 ls []) := by
          intro k5
          induction k5 with
          | zero =>
            intro j  hk5 hinv5 H locs hP hS ls hl
            obtain rfl : n = j := by omega
            refine lv_iload hx hb dX2_hasNear_25 (lv_at hl 0 rfl) ?_
            refine lv_aload_n hx hb dX2_hasNear_27 rfl (lv_at hl 3 rfl) ?_
            refine vgI hx hb hts hi2 hown hK hP (q) (by have := hq.1; omega) hq.2.1 (C := RX2) (T := TX2) (N := 7) rfl 2 (by decide) (by decide) (by decide) (by decide) (hts (.fieldLink RX2 18 "CrateHelpers$Rule" "parts" "I") (by decide +kernel)) (fun _ h9 => h9) dX2_hasNear_28 ?_
            rw [hpn]
            refine lv_icmp_ge (tgt := 77) hx hb dX2_hasNear_31 (by decide) (fun _ => ?_) (fun c_6 => absurd (nI_le (Nat.le_refl _) (by omega)) c_6)
            exact kx5 () (hinv5) H locs hP hS ls (lv_sub hl [0, 1, 2, 3, 4, 5] rfl)
          | succ k5 ih5 =>
            intro j  hk5 hinv5 H locs hP hS ls hl
            have hlt5 : j < n := by omega
            have hi15 : vp_in (nI j) (ln (q + 1)) := by rw [hq.2.2.2.2.2.2.1]; exact vp_in_nI (by omega) (by omega)
            have hi25 : vp_in (nI j) (ln (q + 2)) := by rw [hq.2.2.2.2.2.2.2.1]; exact vp_in_nI (by omega) (by omega)
            have hv15 : vp_in (A (q + 1) j) (ln v) := by rw [hv.2.2]; exact hw.2.2 j (by omega)
            refine lv_iload hx hb dX2_hasNear_25 (lv_at hl 0 rfl) ?_
            refine lv_aload_n hx hb dX2_hasNear_27 rfl (lv_at hl 3 rfl) ?_
            refine vgI hx hb hts hi2 hown hK hP (q) (by have := hq.1; omega) hq.2.1 (C := RX2) (T := TX2) (N := 7) rfl 2 (by decide) (by decide) (by decide) (by decide) (hts (.fieldLink RX2 18 "CrateHelpers$Rule" "parts" "I") (by decide +kernel)) (fun _ h9 => h9) dX2_hasNear_28 ?_
            rw [hpn]
            refine lv_icmp_ge (tgt := 77) hx hb dX2_hasNear_31 (by decide) (fun c_7 => absurd c_7 (nI_ge (by omega) (by omega))) (fun _ => ?_)
            refine lv_iload hx hb dX2_hasNear_34 (lv_at hl 1 rfl) ?_
            refine lv_iconst (v := (-1)) hx hb dX2_hasNear_36 (by decide) ?_
            refine lv_icmp_eq (tgt := 77) hx hb dX2_hasNear_37 (by decide) (fun c9 => absurd c9 hone) (fun _ => ?_)
            refine lv_aload_n hx hb dX2_hasNear_40 rfl (lv_at hl 4 rfl) ?_
            refine lv_aload_n hx hb dX2_hasNear_41 rfl (lv_at hl 3 rfl) ?_
            refine vgS hx hb hts hi2 hown hK hP (q) (by have := hq.1; omega) hq.2.1 (C := RX2) (T := TX2) (N := 7) rfl 3 (by decide) (by decide) (by decide) (by decide) (q + 1) rfl (hts (.fieldLink RX2 21 "CrateHelpers$Rule" "variables" "[I") (by decide +kernel)) (fun _ h9 => h9) dX2_hasNear_42 ?_
            refine lv_iload hx hb dX2_hasNear_45 (lv_at hl 0 rfl) ?_
            refine xiald hx hb hK hP (q + 1) (by have := hq.1; omega) hq.2.2.1 hi15 dX2_hasNear_47 ?_
            rw [nI_clamp (n := j) (by omega)]
            refine xiald hx hb hK hP (v) hv.1 hv.2.1 hv15 dX2_hasNear_48 ?_
            refine lv_istore (lv' := [(6, .int (A v ((A (q + 1) j).toNatClampNeg))), (5, .int (nI j)), (4, .int (A v ((A (q + 1) i).toNatClampNeg))), (3, .int (nI i)), (0, .ref (ad q)), (1, .ref (ad v)), (2, .int d)]) hx hb dX2_hasNear_49 hl (by decide) rfl (fun ls hl => ?_)
            refine lv_iload hx hb dX2_hasNear_51 (lv_at hl 0 rfl) ?_
            refine lv_iconst (v := (-1)) hx hb dX2_hasNear_53 (by decide) ?_
            refine lv_icmp_eq (tgt := 71) hx hb dX2_hasNear_54 (by decide) (fun c_8 => ?_) (fun c_8 => ?_)
            · refine lv_iinc (v := (nI (j + 1))) (lv' := [(5, .int (nI (j + 1))), (6, .int (A v ((A (q + 1) j).toNatClampNeg))), (4, .int (A v ((A (q + 1) i).toNatClampNeg))), (3, .int (nI i)), (0, .ref (ad q)), (1, .ref (ad v)), (2, .int d)]) hx hb dX2_hasNear_71 hl (k := 1) rfl (nI_1 j) (by decide) rfl (fun ls hl => ?_)
              refine lv_goto (tgt := 25) hx hb dX2_hasNear_74 (by decide) ?_
              exact ih5 (j + 1)  (by omega) (by rw [← hinv5]; simp [ex1, pnr, (show pv A q v j = -1 from c_8)]) H locs hP hS ls (lv_sub hl [0, 2, 3, 4, 5, 6] rfl)
            · refine lv_iload hx hb dX2_hasNear_57 (lv_at hl 2 rfl) ?_
              refine lv_iload hx hb dX2_hasNear_59 (lv_at hl 0 rfl) ?_
              refine lv_isub hx hb dX2_hasNear_61 ?_
              refine va_mabs hx hb (by rw [hml]; exact hl.1.symm) hown (hts (.methodLink RX2 66 Lib.Math.abs.name) (by decide +kernel)) (hts (.static Lib.Math.abs.name) (by decide +kernel)) (hts (.initialized "java/lang/Math") (by decide +kernel)) (hts (.code Lib.Math.abs.name Lib.Math.abs.code 1 (some .int)) (List.mem_of_getElem? (i := 6) rfl)) (Nat.le_of_ble_eq_true rfl) (Nat.le_of_ble_eq_true rfl) (Nat.le_of_ble_eq_true rfl) (Nat.le_of_ble_eq_true rfl) dX2_hasNear_62 ?_
              refine lv_iload_n hx hb dX2_hasNear_65 rfl (lv_at hl 6 rfl) ?_
              refine lv_icmp_ge (tgt := 71) hx hb dX2_hasNear_66 (by decide) (fun c_9 => ?_) (fun c_9 => ?_)
              · refine lv_iinc (v := (nI (j + 1))) (lv' := [(5, .int (nI (j + 1))), (6, .int (A v ((A (q + 1) j).toNatClampNeg))), (4, .int (A v ((A (q + 1) i).toNatClampNeg))), (3, .int (nI i)), (0, .ref (ad q)), (1, .ref (ad v)), (2, .int d)]) hx hb dX2_hasNear_71 hl (k := 1) rfl (nI_1 j) (by decide) rfl (fun ls hl => ?_)
                refine lv_goto (tgt := 25) hx hb dX2_hasNear_74 (by decide) ?_
                exact ih5 (j + 1)  (by omega) (by rw [← hinv5]; simp [ex1, pnr, (show ¬ pv A q v j = -1 from c_8), (show ¬ ab (pv A q v i - pv A q v j) < d from Int32.not_lt.mpr c_9)]) H locs hP hS ls (lv_sub hl [0, 2, 3, 4, 5, 6] rfl)
              · refine lv_iconst (v := 1) hx hb dX2_hasNear_69 (by decide) ?_
                exact W.zret (v := 1) hx hb hr (by decide) (fun t ht hW => ⟨⟨1, (I, G, A, L), rfl, ⟨by have h9 : ex1 (pnr A q v d i) (n - (i + 1)) (i + 1) = 1 := by { rw [← hinv5]; simp [ex1, pnr, (show ¬ pv A q v j = -1 from c_8), (show ab (pv A q v i - pv A q v j) < d from Int32.not_le.mp c_9)] }; rw [← hinv1]; simp [ex1, pna, (show ¬ pv A q v i = -1 from hone), h9], rfl⟩, by rw [ht]; exact hP, va_K.moved hW.alike hK⟩, hS.F ht⟩) hS.2.2 dX2_hasNear_70
        exact lp5 (n - (i + 1)) (i + 1)  (by omega) (rfl) _ _ hP hS ls (lv_sub hl [0, 1, 2, 3, 4, 5] rfl)
  exact lp1 (n) 0  (by omega) (rfl) _ _ hP hS ls (lv_sub hl [0, 1, 2, 3] rfl)

set_option maxHeartbeats 4000000 in
set_option maxRecDepth 100000 in
/-- a value that is loaded too much -/
theorem c_X2_isOverloaded (l : Launch) (D : va_G) (K : Nat → ClassId) (ad : Nat → Nat) (hap0 : apart ad (fun _ => True)) (q v z n : Nat) (hq : RuAt q) (hv : IA v 6) (hz : IA z 6) (I : Nat → Nat → Int32) (G : Nat → Nat → Nat) (A : Nat → Nat → Int32) (L : Nat → Nat → Int64) (hw : RuW I A q n) : Ci l D K ad yX2_isOverloaded wsX2_isOverloaded 1 40 [.ref (ad q), .ref (ad v)] (I, G, A, L) (fun (r : Int32) (u : Mem) => r = ex1 (pov I A q v n) 6 0 ∧ u = (I, G, A, L)) := by
  intro sz
  refine Met.ofW (cc := cX2_isOverloaded) (maxL := 6) (ret := (some .boolean)) (by decide) rfl ?_
  intro p e s m args below meth c s₁ Bd hml hv0
  obtain ⟨rfl, hsz, hP, hK⟩ := hv0
  have hx := Bd.exec
  have hb := Bd.bytes
  have hr := Bd.returns
  have hts := atoms_spec (ws := wsX2_isOverloaded) Bd.pre
  have hown : s.vm.findClass RX2 = some m.cls := findClass_of_methodNamed Bd.named
  have hlocks := Bd.notSynchronized
  have hi2 : ∀ w ∈ u_ws RX2 TX2 7, w ∈ wsX2_isOverloaded := fun w h => List.mem_cons_of_mem _ (List.mem_append_right _ h)
  subst hsz
  have hap := vF_ap hap0 s.heap.size
  have hS : va_S (vF ad s.heap.size) s.heap s.heap [] := va_S.rf
  have hP : va_P D vwCl (VW K ad I G A L) s.heap := hP
  have hl := lv_entry ([.ref (ad q), .ref (ad v)]) (n := 6) (Nat.le_of_ble_eq_true rfl)
  rw [lg_entry_eq]
  generalize (lg_sl ([.ref (ad q), .ref (ad v)]) ++ List.replicate (6 - (lg_sl ([.ref (ad q), .ref (ad v)])).length) Slot.unset).toArray = ls at hl ⊢
  have hl : lv_has ls 6 [(0, .ref (ad q)), (1, .ref (ad v))] := hl
  have hn6 : n ≤ 6 := hw.1
  have hpn : I q 2 = nI n := hw.2.1
  refine lv_iconst (v := 0) hx hb dX2_isOverloaded_0 (by decide) ?_
  refine lv_istore_n (lv' := [(2, .int 0), (0, .ref (ad q)), (1, .ref (ad v))]) hx hb dX2_isOverloaded_1 rfl hl (by decide) rfl (fun ls hl => ?_)
  refine lv_iconst (v := 0) hx hb dX2_isOverloaded_2 (by decide) ?_
  refine lv_istore_n (lv' := [(3, .int 0), (2, .int 0), (0, .ref (ad q)), (1, .ref (ad v))]) hx hb dX2_isOverloaded_3 rfl hl (by decide) rfl (fun ls hl => ?_)
  have kx1 : ∀ (a : Int32), sm (to A q v) 0 n a = sm (to A q v) n 0 0 → ∀ (H : Heap) (locs : List Loc), va_P D vwCl (VW K ad I G A L) H → va_S (vF ad s.heap.size) s.heap H locs → ∀ (ls : Array Slot), lv_has ls 6 [(3, .int (nI n)), (2, .int a), (0, .ref (ad q)), (1, .ref (ad v))] → W p l e ({ frames := 1, cells := 0, slots := 0, locals := 40 }) s m ([.ref (ad q), .ref (ad v)] : List Value).toArray below meth c H locs 0 0 (MQ below (va_Qi (fun (r : Int32) (u : Mem) => r = ex1 (pov I A q v n) 6 0 ∧ u = (I, G, A, L)) (vB D K ad) (vF ad s.heap.size)) ([.ref (ad q), .ref (ad v)] : List Value).toArray s 0 0 (vF ad s.heap.size)) (F0 m 43 ls []) := by
    intro a hinv1 H locs hP hS ls hl
    obtain rfl : a = sm (to A q v) n 0 0 := hinv1
    refine lv_iconst (v := 0) hx hb dX2_isOverloaded_43 (by decide) ?_
    refine lv_istore_n (lv' := [(3, .int 0), (2, .int (sm (to A q v) n 0 0)), (0, .ref (ad q)), (1, .ref (ad v))]) hx hb dX2_isOverloaded_44 rfl hl (by decide) rfl (fun ls hl => ?_)
    have kx2 : ∀ (_ : Unit), ex1 (pov I A q v n) 0 6 = ex1 (pov I A q v n) 6 0 → ∀ (H : Heap) (locs : List Loc), va_P D vwCl (VW K ad I G A L) H → va_S (vF ad s.heap.size) s.heap H locs → ∀ (ls : Array Slot), lv_has ls 6 [(3, .int (nI 6)), (2, .int (sm (to A q v) n 0 0)), (0, .ref (ad q)), (1, .ref (ad v))] → W p l e ({ frames := 1, cells := 0, slots := 0, locals := 40 }) s m ([.ref (ad q), .ref (ad v)] : List Value).toArray below meth c H locs 0 0 (MQ below (va_Qi (fun (r : Int32) (u : Mem) => r = ex1 (pov I A q v n) 6 0 ∧ u = (I, G, A, L)) (vB D K ad) (vF ad s.heap.size)) ([.ref (ad q), .ref (ad v)] : List Value).toArray s 0 0 (vF ad s.heap.size)) (F0 m 114 ls []) := by
      intro _ hinv2 H locs hP hS ls hl
      refine lv_iconst (v := 0) hx hb dX2_isOverloaded_114 (by decide) ?_
      exact W.zret (v := 0) hx hb hr (by decide) (fun t ht hW => ⟨⟨0, (I, G, A, L), rfl, ⟨hinv2, rfl⟩, by rw [ht]; exact hP, va_K.moved hW.alike hK⟩, hS.F ht⟩) hS.2.2 dX2_isOverloaded_115
    have lp2 : ∀ (k2 x : Nat), x + k2 = 6 → ex1 (pov I A q v n) k2 x = ex1 (pov I A q v n) 6 0 → ∀ (H : Heap) (locs : List Loc), va_P D vwCl (VW K ad I G A L) H → va_S (vF ad s.heap.size) s.heap H locs → ∀ (ls : Array Slot), lv_has ls 6 [(3, .int (nI x)), (2, .int (sm (to A q v) n 0 0)), (0, .ref (ad q)), (1, .ref (ad v))] → W p l e ({ frames := 1, cells := 0, slots := 0, locals := 40 }) s m ([.ref (ad q), .ref (ad v)] : List Value).toArray below meth c H locs 0 0 (MQ below (va_Qi (fun (r : Int32) (u : Mem) => r = ex1 (pov I A q v n) 6 0 ∧ u = (I, G, A, L)) (vB D K ad) (vF ad s.heap.size)) ([.ref (ad q), .ref (ad v)] : List Value).toArray s 0 0 (vF ad s.heap.size)) (F0 m 45 ls []) := by
      intro k2
      induction k2 with
      | zero =>
        intro x  hk2 hinv2 H locs hP hS ls hl
        obtain rfl : 6 = x := by omega
        refine lv_iload_n hx hb dX2_isOverloaded_45 rfl (lv_at hl 0 rfl) ?_
        refine lv_bipush (v := 6) hx hb dX2_isOverloaded_46 (by decide) ?_
        refine lv_icmp_ge (tgt := 114) hx hb dX2_isOverloaded_48 (by decide) (fun _ => ?_) (fun c_3 => absurd (by decide) c_3)
        exact kx2 () (hinv2) H locs hP hS ls (lv_sub hl [0, 1, 2, 3] rfl)
      | succ k2 ih2 =>
        intro x  hk2 hinv2 H locs hP hS ls hl
        have hlt2 : x < 6 := by omega
        refine lv_iload_n hx hb dX2_isOverloaded_45 rfl (lv_at hl 0 rfl) ?_
        refine lv_bipush (v := 6) hx hb dX2_isOverloaded_46 (by decide) ?_
        refine lv_icmp_ge (tgt := 114) hx hb dX2_isOverloaded_48 (by decide) (fun c_4 => absurd c_4 (show ¬ (6 : Int32) ≤ nI x from nI_ge (a := x) (b := 6) (by omega) (by omega))) (fun _ => ?_)
        refine lv_iload_n hx hb dX2_isOverloaded_51 rfl (lv_at hl 1 rfl) ?_
        refine lv_istore (lv' := [(4, .int (sm (to A q v) n 0 0)), (3, .int (nI x)), (2, .int (sm (to A q v) n 0 0)), (0, .ref (ad q)), (1, .ref (ad v))]) hx hb dX2_isOverloaded_52 hl (by decide) rfl (fun ls hl => ?_)
        refine lv_iconst (v := 0) hx hb dX2_isOverloaded_54 (by decide) ?_
        refine lv_istore (lv' := [(5, .int 0), (4, .int (sm (to A q v) n 0 0)), (3, .int (nI x)), (2, .int (sm (to A q v) n 0 0)), (0, .ref (ad q)), (1, .ref (ad v))]) hx hb dX2_isOverloaded_55 hl (by decide) rfl (fun ls hl => ?_)
        have kx5 : ∀ (b : Int32), sm (tv A q v (nI x)) 0 n b = sm (tv A q v (nI x)) n 0 (sm (to A q v) n 0 0) → ∀ (H : Heap) (locs : List Loc), va_P D vwCl (VW K ad I G A L) H → va_S (vF ad s.heap.size) s.heap H locs → ∀ (ls : Array Slot), lv_has ls 6 [(5, .int (nI n)), (4, .int b), (3, .int (nI x)), (2, .int (sm (to A q v) n 0 0)), (0, .ref (ad q)), (1, .ref (ad v))] → W p l e ({ frames := 1, cells := 0, slots := 0, locals := 40 }) s m ([.ref (ad q), .ref (ad v)] : List Value).toArray below meth c H locs 0 0 (MQ below (va_Qi (fun (r : Int32) (u : Mem) => r = ex1 (pov I A q v n) 6 0 ∧ u = (I, G, A, L)) (vB D K ad) (vF ad s.heap.size)) ([.ref (ad q), .ref (ad v)] : List Value).toArray s 0 0 (vF ad s.heap.size)) (F0 m 97 ls []) := by
          intro b hinv5 H locs hP hS ls hl
          have hb5 : b = sm (tv A q v (nI x)) n 0 (sm (to A q v) n 0 0) := hinv5
          refine lv_iload hx hb dX2_isOverloaded_97 (lv_at hl 1 rfl) ?_
          refine lv_aload_n hx hb dX2_isOverloaded_99 rfl (lv_at hl 4 rfl) ?_
          refine vgI hx hb hts hi2 hown hK hP (q) (by have := hq.1; omega) hq.2.1 (C := RX2) (T := TX2) (N := 7) rfl 1 (by decide) (by decide) (by decide) (by decide) (hts (.fieldLink RX2 15 "CrateHelpers$Rule" "c" "I") (by decide +kernel)) (fun _ h9 => h9) dX2_isOverloaded_100 ?_
          refine lv_icmp_le (tgt := 108) hx hb dX2_isOverloaded_103 (by decide) (fun c_6 => ?_) (fun c_6 => ?_)
          · rw [hb5] at c_6
            refine lv_iinc (v := (nI (x + 1))) (lv' := [(3, .int (nI (x + 1))), (5, .int (nI n)), (4, .int b), (2, .int (sm (to A q v) n 0 0)), (0, .ref (ad q)), (1, .ref (ad v))]) hx hb dX2_isOverloaded_108 hl (k := 2) rfl (nI_1 x) (by decide) rfl (fun ls hl => ?_)
            refine lv_goto (tgt := 45) hx hb dX2_isOverloaded_111 (by decide) ?_
            exact ih2 (x + 1)  (by omega) (by rw [← hinv2]; simp [ex1, pov, (Int32.not_lt.mpr c_6)]) H locs hP hS ls (lv_sub hl [0, 3, 4, 5] rfl)
          · rw [hb5] at c_6
            refine lv_iconst (v := 1) hx hb dX2_isOverloaded_106 (by decide) ?_
            exact W.zret (v := 1) hx hb hr (by decide) (fun t ht hW => ⟨⟨1, (I, G, A, L), rfl, ⟨by rw [← hinv2]; simp [ex1, pov, (Int32.not_le.mp c_6)], rfl⟩, by rw [ht]; exact hP, va_K.moved hW.alike hK⟩, hS.F ht⟩) hS.2.2 dX2_isOverloaded_107
        have lp5 : ∀ (k5 i : Nat) (b : Int32), i + k5 = n → sm (tv A q v (nI x)) k5 i b = sm (tv A q v (nI x)) n 0 (sm (to A q v) n 0 0) → ∀ (H : Heap) (locs : List Loc), va_P D vwCl (VW K ad I G A L) H → va_S (vF ad s.heap.size) s.heap H locs → ∀ (ls : Array Slot), lv_has ls 6 [(5, .int (nI i)), (4, .int b), (3, .int (nI x)), (2, .int (sm (to A q v) n 0 0)), (0, .ref (ad q)), (1, .ref (ad v))] → W p l e ({ frames := 1, cells := 0, slots := 0, locals := 40 }) s m ([.ref (ad q), .ref (ad v)] : List Value).toArray below meth c H locs 0 0 (MQ below (va_Qi (fun (r : Int32) (u : Mem) => r = ex1 (pov I A q v n) 6 0 ∧ u = (I, G, A, L)) (vB D K ad) (vF ad s.heap.size)) ([.ref (ad q), .ref (ad v)] : List Value).toArray s 0 0 (vF ad s.heap.size)) (F0 m 57 ls []) := by
          intro k5
          induction k5 with
          | zero =>
            intro i b hk5 hinv5 H locs hP hS ls hl
            obtain rfl : n = i := by omega
            refine lv_iload hx hb dX2_isOverloaded_57 (lv_at hl 0 rfl) ?_
            refine lv_aload_n hx hb dX2_isOverloaded_59 rfl (lv_at hl 4 rfl) ?_
            refine vgI hx hb hts hi2 hown hK hP (q) (by have := hq.1; omega) hq.2.1 (C := RX2) (T := TX2) (N := 7) rfl 2 (by decide) (by decide) (by decide) (by decide) (hts (.fieldLink RX2 18 "CrateHelpers$Rule" "parts" "I") (by decide +kernel)) (fun _ h9 => h9) dX2_isOverloaded_60 ?_
            rw [hpn]
            refine lv_icmp_ge (tgt := 97) hx hb dX2_isOverloaded_63 (by decide) (fun _ => ?_) (fun c_7 => absurd (nI_le (Nat.le_refl _) (by omega)) c_7)
            exact kx5 b (hinv5) H locs hP hS ls (lv_sub hl [0, 1, 2, 3, 4, 5] rfl)
          | succ k5 ih5 =>
            intro i b hk5 hinv5 H locs hP hS ls hl
            have hlt5 : i < n := by omega
            have hi15 : vp_in (nI i) (ln (q + 1)) := by rw [hq.2.2.2.2.2.2.1]; exact vp_in_nI (by omega) (by omega)
            have hi25 : vp_in (nI i) (ln (q + 2)) := by rw [hq.2.2.2.2.2.2.2.1]; exact vp_in_nI (by omega) (by omega)
            have hv15 : vp_in (A (q + 1) i) (ln v) := by rw [hv.2.2]; exact hw.2.2 i (by omega)
            refine lv_iload hx hb dX2_isOverloaded_57 (lv_at hl 0 rfl) ?_
            refine lv_aload_n hx hb dX2_isOverloaded_59 rfl (lv_at hl 4 rfl) ?_
            refine vgI hx hb hts hi2 hown hK hP (q) (by have := hq.1; omega) hq.2.1 (C := RX2) (T := TX2) (N := 7) rfl 2 (by decide) (by decide) (by decide) (by decide) (hts (.fieldLink RX2 18 "CrateHelpers$Rule" "parts" "I") (by decide +kernel)) (fun _ h9 => h9) dX2_isOverloaded_60 ?_
            rw [hpn]
            refine lv_icmp_ge (tgt := 97) hx hb dX2_isOverloaded_63 (by decide) (fun c_8 => absurd c_8 (nI_ge (by omega) (by omega))) (fun _ => ?_)
            refine lv_aload_n hx hb dX2_isOverloaded_66 rfl (lv_at hl 5 rfl) ?_
            refine lv_aload_n hx hb dX2_isOverloaded_67 rfl (lv_at hl 4 rfl) ?_
            refine vgS hx hb hts hi2 hown hK hP (q) (by have := hq.1; omega) hq.2.1 (C := RX2) (T := TX2) (N := 7) rfl 3 (by decide) (by decide) (by decide) (by decide) (q + 1) rfl (hts (.fieldLink RX2 21 "CrateHelpers$Rule" "variables" "[I") (by decide +kernel)) (fun _ h9 => h9) dX2_isOverloaded_68 ?_
            refine lv_iload hx hb dX2_isOverloaded_71 (lv_at hl 0 rfl) ?_
            refine xiald hx hb hK hP (q + 1) (by have := hq.1; omega) hq.2.2.1 hi15 dX2_isOverloaded_73 ?_
            rw [nI_clamp (n := i) (by omega)]
            refine xiald hx hb hK hP (v) hv.1 hv.2.1 hv15 dX2_isOverloaded_74 ?_
            refine lv_iload_n hx hb dX2_isOverloaded_75 rfl (lv_at hl 2 rfl) ?_
            refine lv_icmp_ne (tgt := 91) hx hb dX2_isOverloaded_76 (by decide) (fun c_9 => ?_) (fun c_9 => ?_)
            · refine lv_iinc (v := (nI (i + 1))) (lv' := [(5, .int (nI (i + 1))), (4, .int b), (3, .int (nI x)), (2, .int (sm (to A q v) n 0 0)), (0, .ref (ad q)), (1, .ref (ad v))]) hx hb dX2_isOverloaded_91 hl (k := 0) rfl (nI_1 i) (by decide) rfl (fun ls hl => ?_)
              refine lv_goto (tgt := 57) hx hb dX2_isOverloaded_94 (by decide) ?_
              exact ih5 (i + 1) b (by omega) (by rw [← hinv5]; simp [sm, tv, pv, c_9]) H locs hP hS ls (lv_sub hl [0, 1, 2, 3, 4, 5] rfl)
            · refine lv_iload hx hb dX2_isOverloaded_79 (lv_at hl 1 rfl) ?_
              refine lv_aload_n hx hb dX2_isOverloaded_81 rfl (lv_at hl 4 rfl) ?_
              refine vgS hx hb hts hi2 hown hK hP (q) (by have := hq.1; omega) hq.2.1 (C := RX2) (T := TX2) (N := 7) rfl 4 (by decide) (by decide) (by decide) (by decide) (q + 2) rfl (hts (.fieldLink RX2 25 "CrateHelpers$Rule" "weights" "[I") (by decide +kernel)) (fun _ h9 => h9) dX2_isOverloaded_82 ?_
              refine lv_iload hx hb dX2_isOverloaded_85 (lv_at hl 0 rfl) ?_
              refine xiald hx hb hK hP (q + 2) (by have := hq.1; omega) hq.2.2.2.1 hi25 dX2_isOverloaded_87 ?_
              rw [nI_clamp (n := i) (by omega)]
              refine lv_iadd hx hb dX2_isOverloaded_88 ?_
              refine lv_istore (lv' := [(4, .int (b + (A (q + 2) i))), (5, .int (nI i)), (3, .int (nI x)), (2, .int (sm (to A q v) n 0 0)), (0, .ref (ad q)), (1, .ref (ad v))]) hx hb dX2_isOverloaded_89 hl (by decide) rfl (fun ls hl => ?_)
              refine lv_iinc (v := (nI (i + 1))) (lv' := [(5, .int (nI (i + 1))), (4, .int (b + (A (q + 2) i))), (3, .int (nI x)), (2, .int (sm (to A q v) n 0 0)), (0, .ref (ad q)), (1, .ref (ad v))]) hx hb dX2_isOverloaded_91 hl (k := 1) rfl (nI_1 i) (by decide) rfl (fun ls hl => ?_)
              refine lv_goto (tgt := 57) hx hb dX2_isOverloaded_94 (by decide) ?_
              exact ih5 (i + 1) (b + (A (q + 2) i)) (by omega) (by rw [← hinv5]; simp [sm, tv, pv, c_9]) H locs hP hS ls (lv_sub hl [0, 1, 2, 3, 4, 5] rfl)
        exact lp5 (n) 0 (sm (to A q v) n 0 0) (by omega) (rfl) _ _ hP hS ls (lv_sub hl [0, 1, 2, 3, 4, 5] rfl)
    exact lp2 (6) 0  (by omega) (rfl) _ _ hP hS ls (lv_sub hl [0, 1, 2, 3] rfl)
  have lp1 : ∀ (k1 i : Nat) (a : Int32), i + k1 = n → sm (to A q v) k1 i a = sm (to A q v) n 0 0 → ∀ (H : Heap) (locs : List Loc), va_P D vwCl (VW K ad I G A L) H → va_S (vF ad s.heap.size) s.heap H locs → ∀ (ls : Array Slot), lv_has ls 6 [(3, .int (nI i)), (2, .int a), (0, .ref (ad q)), (1, .ref (ad v))] → W p l e ({ frames := 1, cells := 0, slots := 0, locals := 40 }) s m ([.ref (ad q), .ref (ad v)] : List Value).toArray below meth c H locs 0 0 (MQ below (va_Qi (fun (r : Int32) (u : Mem) => r = ex1 (pov I A q v n) 6 0 ∧ u = (I, G, A, L)) (vB D K ad) (vF ad s.heap.size)) ([.ref (ad q), .ref (ad v)] : List Value).toArray s 0 0 (vF ad s.heap.size)) (F0 m 4 ls []) := by
    intro k1
    induction k1 with
    | zero =>
      intro i a hk1 hinv1 H locs hP hS ls hl
      obtain rfl : n = i := by omega
      refine lv_iload_n hx hb dX2_isOverloaded_4 rfl (lv_at hl 0 rfl) ?_
      refine lv_aload_n hx hb dX2_isOverloaded_5 rfl (lv_at hl 2 rfl) ?_
      refine vgI hx hb hts hi2 hown hK hP (q) (by have := hq.1; omega) hq.2.1 (C := RX2) (T := TX2) (N := 7) rfl 2 (by decide) (by decide) (by decide) (by decide) (hts (.fieldLink RX2 18 "CrateHelpers$Rule" "parts" "I") (by decide +kernel)) (fun _ h9 => h9) dX2_isOverloaded_6 ?_
      rw [hpn]
      refine lv_icmp_ge (tgt := 43) hx hb dX2_isOverloaded_9 (by decide) (fun _ => ?_) (fun c_10 => absurd (nI_le (Nat.le_refl _) (by omega)) c_10)
      exact kx1 a (hinv1) H locs hP hS ls (lv_sub hl [0, 1, 2, 3] rfl)
    | succ k1 ih1 =>
      intro i a hk1 hinv1 H locs hP hS ls hl
      have hlt1 : i < n := by omega
      have hi11 : vp_in (nI i) (ln (q + 1)) := by rw [hq.2.2.2.2.2.2.1]; exact vp_in_nI (by omega) (by omega)
      have hi21 : vp_in (nI i) (ln (q + 2)) := by rw [hq.2.2.2.2.2.2.2.1]; exact vp_in_nI (by omega) (by omega)
      have hv11 : vp_in (A (q + 1) i) (ln v) := by rw [hv.2.2]; exact hw.2.2 i (by omega)
      have hz11 : vp_in (A (q + 1) i) (ln z) := by rw [hz.2.2]; exact hw.2.2 i (by omega)
      refine lv_iload_n hx hb dX2_isOverloaded_4 rfl (lv_at hl 0 rfl) ?_
      refine lv_aload_n hx hb dX2_isOverloaded_5 rfl (lv_at hl 2 rfl) ?_
      refine vgI hx hb hts hi2 hown hK hP (q) (by have := hq.1; omega) hq.2.1 (C := RX2) (T := TX2) (N := 7) rfl 2 (by decide) (by decide) (by decide) (by decide) (hts (.fieldLink RX2 18 "CrateHelpers$Rule" "parts" "I") (by decide +kernel)) (fun _ h9 => h9) dX2_isOverloaded_6 ?_
      rw [hpn]
      refine lv_icmp_ge (tgt := 43) hx hb dX2_isOverloaded_9 (by decide) (fun c_11 => absurd c_11 (nI_ge (by omega) (by omega))) (fun _ => ?_)
      refine lv_aload_n hx hb dX2_isOverloaded_12 rfl (lv_at hl 3 rfl) ?_
      refine lv_aload_n hx hb dX2_isOverloaded_13 rfl (lv_at hl 2 rfl) ?_
      refine vgS hx hb hts hi2 hown hK hP (q) (by have := hq.1; omega) hq.2.1 (C := RX2) (T := TX2) (N := 7) rfl 3 (by decide) (by decide) (by decide) (by decide) (q + 1) rfl (hts (.fieldLink RX2 21 "CrateHelpers$Rule" "variables" "[I") (by decide +kernel)) (fun _ h9 => h9) dX2_isOverloaded_14 ?_
      refine lv_iload_n hx hb dX2_isOverloaded_17 rfl (lv_at hl 0 rfl) ?_
      refine xiald hx hb hK hP (q + 1) (by have := hq.1; omega) hq.2.2.1 hi11 dX2_isOverloaded_18 ?_
      rw [nI_clamp (n := i) (by omega)]
      refine xiald hx hb hK hP (v) hv.1 hv.2.1 hv11 dX2_isOverloaded_19 ?_
      refine lv_iconst (v := (-1)) hx hb dX2_isOverloaded_20 (by decide) ?_
      refine lv_icmp_ne (tgt := 37) hx hb dX2_isOverloaded_21 (by decide) (fun c_12 => ?_) (fun c_12 => ?_)
      · refine lv_iinc (v := (nI (i + 1))) (lv' := [(3, .int (nI (i + 1))), (2, .int a), (0, .ref (ad q)), (1, .ref (ad v))]) hx hb dX2_isOverloaded_37 hl (k := 0) rfl (nI_1 i) (by decide) rfl (fun ls hl => ?_)
        refine lv_goto (tgt := 4) hx hb dX2_isOverloaded_40 (by decide) ?_
        exact ih1 (i + 1) a (by omega) (by rw [← hinv1]; simp [sm, to, pv, c_12]) H locs hP hS ls (lv_sub hl [0, 1, 2, 3] rfl)
      · refine lv_iload_n hx hb dX2_isOverloaded_24 rfl (lv_at hl 1 rfl) ?_
        refine lv_iconst (v := 0) hx hb dX2_isOverloaded_25 (by decide) ?_
        refine lv_aload_n hx hb dX2_isOverloaded_26 rfl (lv_at hl 2 rfl) ?_
        refine vgS hx hb hts hi2 hown hK hP (q) (by have := hq.1; omega) hq.2.1 (C := RX2) (T := TX2) (N := 7) rfl 4 (by decide) (by decide) (by decide) (by decide) (q + 2) rfl (hts (.fieldLink RX2 25 "CrateHelpers$Rule" "weights" "[I") (by decide +kernel)) (fun _ h9 => h9) dX2_isOverloaded_27 ?_
        refine lv_iload_n hx hb dX2_isOverloaded_30 rfl (lv_at hl 0 rfl) ?_
        refine xiald hx hb hK hP (q + 2) (by have := hq.1; omega) hq.2.2.2.1 hi21 dX2_isOverloaded_31 ?_
        rw [nI_clamp (n := i) (by omega)]
        refine va_mmin hx hb (by rw [hml]; exact hl.1.symm) hown (hts (.methodLink RX2 63 Lib.Math.min.name) (by decide +kernel)) (hts (.static Lib.Math.min.name) (by decide +kernel)) (hts (.initialized "java/lang/Math") (by decide +kernel)) (hts (.code Lib.Math.min.name Lib.Math.min.code 2 (some .int)) (List.mem_of_getElem? (i := 7) rfl)) (Nat.le_of_ble_eq_true rfl) (Nat.le_of_ble_eq_true rfl) (Nat.le_of_ble_eq_true rfl) (Nat.le_of_ble_eq_true rfl) dX2_isOverloaded_32 ?_
        refine lv_iadd hx hb dX2_isOverloaded_35 ?_
        refine lv_istore_n (lv' := [(2, .int (a + (if (A (q + 2) i) < 0 then (A (q + 2) i) else 0))), (3, .int (nI i)), (0, .ref (ad q)), (1, .ref (ad v))]) hx hb dX2_isOverloaded_36 rfl hl (by decide) rfl (fun ls hl => ?_)
        refine lv_iinc (v := (nI (i + 1))) (lv' := [(3, .int (nI (i + 1))), (2, .int (a + (if (A (q + 2) i) < 0 then (A (q + 2) i) else 0))), (0, .ref (ad q)), (1, .ref (ad v))]) hx hb dX2_isOverloaded_37 hl (k := 1) rfl (nI_1 i) (by decide) rfl (fun ls hl => ?_)
        refine lv_goto (tgt := 4) hx hb dX2_isOverloaded_40 (by decide) ?_
        exact ih1 (i + 1) (a + (if (A (q + 2) i) < 0 then (A (q + 2) i) else 0)) (by omega) (by rw [← hinv1]; simp [sm, to, pv, c_12]) H locs hP hS ls (lv_sub hl [0, 1, 2, 3] rfl)
  exact lp1 (n) 0 0 (by omega) (rfl) _ _ hP hS ls (lv_sub hl [0, 1, 2, 3] rfl)

/-! part 23.rule4 -/
/-- is the rule broken? (1: it is) -/
def brk (I A : Nat → Nat → Int32) (q v z n : Nat) : Int32 := if I q 0 = 0 then ex1 (pov I A q v n) 6 0 else if I q 0 = 1 then (if I q 1 < sm (tl A q v z) n 0 0 then 1 else 0) else if I q 0 = 2 then (if sm (tg A q v z) n 0 0 < I q 1 then 1 else 0) else if I q 0 = 3 then (if I q 1 < sm (tl A q v z) n 0 0 then 1 else if sm (tg A q v z) n 0 0 < I q 1 then 1 else 0) else if I q 0 = 4 then ex1 (pna A q v n 1) n 0 else if I q 0 = 5 then ex1 (pna A q v n (if 1 < I q 1 then I q 1 else 1)) n 0 else if I q 0 = 6 then ex1 (pst I A q v) (n - 1) 0 else if I q 0 = 7 then (if sm (tw A q v) n 0 0 < I q 1 then 1 else 0) else 0
theorem sw_ne7 {x : Int32} (h : x.toInt < 0 ∨ 7 < x.toInt) : x ≠ 0 ∧ x ≠ 1 ∧ x ≠ 2 ∧ x ≠ 3 ∧ x ≠ 4 ∧ x ≠ 5 ∧ x ≠ 6 ∧ x ≠ 7 := by
  refine ⟨?_, ?_, ?_, ?_, ?_, ?_, ?_, ?_⟩ <;> (rintro rfl; revert h; decide)

set_option maxHeartbeats 4000000 in
set_option maxRecDepth 100000 in
/-- is the rule broken? -/
theorem c_X2_isBroken (l : Launch) (D : va_G) (K : Nat → ClassId) (ad : Nat → Nat) (hap0 : apart ad (fun _ => True)) (q v z n : Nat) (hq : RuAt q) (hv : IA v 6) (hz : IA z 6) (I : Nat → Nat → Int32) (G : Nat → Nat → Nat) (A : Nat → Nat → Int32) (L : Nat → Nat → Int64) (hw : RuW I A q n) : Ci l D K ad yX2_isBroken wsX2_isBroken 2 80 [.ref (ad q), .ref (ad v), .ref (ad z)] (I, G, A, L) (fun (r : Int32) (u : Mem) => r = brk I A q v z n ∧ u = (I, G, A, L)) := by
  intro sz
  refine Met.ofW (cc := cX2_isBroken) (maxL := 3) (ret := (some .boolean)) (by decide) rfl ?_
  intro p e s m args below meth c s₁ Bd hml hv0
  obtain ⟨rfl, hsz, hP, hK⟩ := hv0
  have hx := Bd.exec
  have hb := Bd.bytes
  have hr := Bd.returns
  have hts := atoms_spec (ws := wsX2_isBroken) Bd.pre
  have hown : s.vm.findClass RX2 = some m.cls := findClass_of_methodNamed Bd.named
  have hlocks := Bd.notSynchronized
  have hi2 : ∀ w ∈ u_ws RX2 TX2 7, w ∈ wsX2_isBroken := fun w h => List.mem_cons_of_mem _ (List.mem_append_right _ h)
  subst hsz
  have hap := vF_ap hap0 s.heap.size
  have hS : va_S (vF ad s.heap.size) s.heap s.heap [] := va_S.rf
  have hP : va_P D vwCl (VW K ad I G A L) s.heap := hP
  have hl := lv_entry ([.ref (ad q), .ref (ad v), .ref (ad z)]) (n := 3) (Nat.le_of_ble_eq_true rfl)
  rw [lg_entry_eq]
  generalize (lg_sl ([.ref (ad q), .ref (ad v), .ref (ad z)]) ++ List.replicate (3 - (lg_sl ([.ref (ad q), .ref (ad v), .ref (ad z)])).length) Slot.unset).toArray = ls at hl ⊢
  have hl : lv_has ls 3 [(0, .ref (ad q)), (1, .ref (ad v)), (2, .ref (ad z))] := hl
  have hn6 : n ≤ 6 := hw.1
  have hpn : I q 2 = nI n := hw.2.1
  refine lv_aload_n hx hb dX2_isBroken_0 rfl (lv_at hl 0 rfl) ?_
  refine vgI hx hb hts hi2 hown hK hP (q) (by have := hq.1; omega) hq.2.1 (C := RX2) (T := TX2) (N := 7) rfl 0 (by decide) (by decide) (by decide) (by decide) (hts (.fieldLink RX2 9 "CrateHelpers$Rule" "kind" "I") (by decide +kernel)) (fun _ h9 => h9) dX2_isBroken_1 ?_
  rcases sw_7 (I q 0) with hs1 | hs1 | hs1 | hs1 | hs1 | hs1 | hs1 | hs1 | hs1
  · rw [hs1]
    refine lv_tableIn (off := 48) (tgt := 52) hx hb dX2_isBroken_4 (by decide) (by decide) (by decide) (by decide) ?_
    refine lv_aload_n hx hb dX2_isBroken_52 rfl (lv_at hl 0 rfl) ?_
    refine lv_aload_n hx hb dX2_isBroken_53 rfl (lv_at hl 1 rfl) ?_
    refine vcV (As := [.ref (ad v)]) (rest := []) ⟨hx, hb, hml, hown, hts⟩ (c_X2_isOverloaded l D K ad hap0 q v z n hq hv hz I G A L hw) (cwV 1 hts gX2_isBroken_X2_isOverloaded rfl rfl rfl (by decide +kernel) ⟨Nat.le_of_ble_eq_true rfl, Nat.le_of_ble_eq_true rfl⟩) hK hP hS (by have := hq.1; omega) hq.2.1 (by decide) rfl rfl rfl hl.1 (Nat.le_of_ble_eq_true rfl) (Nat.le_of_ble_eq_true rfl) (Nat.le_of_ble_eq_true rfl) dX2_isBroken_54 (fun r2 u3 H locs hw hP hS => ?_) rfl
    obtain ⟨hr2, rfl⟩ := hw
    have hP : va_P D vwCl (VW K ad I G A L) H := hP
    subst hr2
    exact W.zret (v := (ex1 (pov I A q v n) 6 0)) hx hb hr (nar01 (ex1_01 _ _ _)) (fun t ht hW => ⟨⟨(ex1 (pov I A q v n) 6 0), (I, G, A, L), rfl, ⟨by simp [brk, hs1], rfl⟩, by rw [ht]; exact hP, va_K.moved hW.alike hK⟩, hS.F ht⟩) hS.2.2 dX2_isBroken_57
  · rw [hs1]
    refine lv_tableIn (off := 54) (tgt := 58) hx hb dX2_isBroken_4 (by decide) (by decide) (by decide) (by decide) ?_
    refine lv_aload_n hx hb dX2_isBroken_58 rfl (lv_at hl 0 rfl) ?_
    refine lv_aload_n hx hb dX2_isBroken_59 rfl (lv_at hl 1 rfl) ?_
    refine lv_aload_n hx hb dX2_isBroken_60 rfl (lv_at hl 2 rfl) ?_
    refine vcV (As := [.ref (ad v), .ref (ad z)]) (rest := []) ⟨hx, hb, hml, hown, hts⟩ (c_X2_leastSum l D K ad hap0 q v z n hq hv hz I G A L hw) (cwV 2 hts gX2_isBroken_X2_leastSum rfl rfl rfl (by decide +kernel) ⟨Nat.le_of_ble_eq_true rfl, Nat.le_of_ble_eq_true rfl⟩) hK hP hS (by have := hq.1; omega) hq.2.1 (by decide) rfl rfl rfl hl.1 (Nat.le_of_ble_eq_true rfl) (Nat.le_of_ble_eq_true rfl) (Nat.le_of_ble_eq_true rfl) dX2_isBroken_61 (fun r4 u5 H locs hw hP hS => ?_) rfl
    obtain ⟨hr4, rfl⟩ := hw
    have hP : va_P D vwCl (VW K ad I G A L) H := hP
    subst hr4
    refine lv_aload_n hx hb dX2_isBroken_64 rfl (lv_at hl 0 rfl) ?_
    refine vgI hx hb hts hi2 hown hK hP (q) (by have := hq.1; omega) hq.2.1 (C := RX2) (T := TX2) (N := 7) rfl 1 (by decide) (by decide) (by decide) (by decide) (hts (.fieldLink RX2 15 "CrateHelpers$Rule" "c" "I") (by decide +kernel)) (fun _ h9 => h9) dX2_isBroken_65 ?_
    refine lv_icmp_le (tgt := 75) hx hb dX2_isBroken_68 (by decide) (fun c_6 => ?_) (fun c_6 => ?_)
    · refine lv_iconst (v := 0) hx hb dX2_isBroken_75 (by decide) ?_
      exact W.zret (v := 0) hx hb hr (by decide) (fun t ht hW => ⟨⟨0, (I, G, A, L), rfl, ⟨by simp [brk, hs1, (Int32.not_lt.mpr c_6)], rfl⟩, by rw [ht]; exact hP, va_K.moved hW.alike hK⟩, hS.F ht⟩) hS.2.2 dX2_isBroken_76
    · refine lv_iconst (v := 1) hx hb dX2_isBroken_71 (by decide) ?_
      refine lv_goto (tgt := 76) hx hb dX2_isBroken_72 (by decide) ?_
      exact W.zret (v := 1) hx hb hr (by decide) (fun t ht hW => ⟨⟨1, (I, G, A, L), rfl, ⟨by simp [brk, hs1, (Int32.not_le.mp c_6)], rfl⟩, by rw [ht]; exact hP, va_K.moved hW.alike hK⟩, hS.F ht⟩) hS.2.2 dX2_isBroken_76
  · rw [hs1]
    refine lv_tableIn (off := 73) (tgt := 77) hx hb dX2_isBroken_4 (by decide) (by decide) (by decide) (by decide) ?_
    refine lv_aload_n hx hb dX2_isBroken_77 rfl (lv_at hl 0 rfl) ?_
    refine lv_aload_n hx hb dX2_isBroken_78 rfl (lv_at hl 1 rfl) ?_
    refine lv_aload_n hx hb dX2_isBroken_79 rfl (lv_at hl 2 rfl) ?_
    refine vcV (As := [.ref (ad v), .ref (ad z)]) (rest := []) ⟨hx, hb, hml, hown, hts⟩ (c_X2_greatestSum l D K ad hap0 q v z n hq hv hz I G A L hw) (cwV 2 hts gX2_isBroken_X2_greatestSum rfl rfl rfl (by decide +kernel) ⟨Nat.le_of_ble_eq_true rfl, Nat.le_of_ble_eq_true rfl⟩) hK hP hS (by have := hq.1; omega) hq.2.1 (by decide) rfl rfl rfl hl.1 (Nat.le_of_ble_eq_true rfl) (Nat.le_of_ble_eq_true rfl) (Nat.le_of_ble_eq_true rfl) dX2_isBroken_80 (fun r7 u8 H locs hw hP hS => ?_) rfl
    obtain ⟨hr7, rfl⟩ := hw
    have hP : va_P D vwCl (VW K ad I G A L) H := hP
    subst hr7
    refine lv_aload_n hx hb dX2_isBroken_83 rfl (lv_at hl 0 rfl) ?_
    refine vgI hx hb hts hi2 hown hK hP (q) (by have := hq.1; omega) hq.2.1 (C := RX2) (T := TX2) (N := 7) rfl 1 (by decide) (by decide) (by decide) (by decide) (hts (.fieldLink RX2 15 "CrateHelpers$Rule" "c" "I") (by decide +kernel)) (fun _ h9 => h9) dX2_isBroken_84 ?_
    refine lv_icmp_ge (tgt := 94) hx hb dX2_isBroken_87 (by decide) (fun c_9 => ?_) (fun c_9 => ?_)
    · refine lv_iconst (v := 0) hx hb dX2_isBroken_94 (by decide) ?_
      exact W.zret (v := 0) hx hb hr (by decide) (fun t ht hW => ⟨⟨0, (I, G, A, L), rfl, ⟨by simp [brk, hs1, (Int32.not_lt.mpr c_9)], rfl⟩, by rw [ht]; exact hP, va_K.moved hW.alike hK⟩, hS.F ht⟩) hS.2.2 dX2_isBroken_95
    · refine lv_iconst (v := 1) hx hb dX2_isBroken_90 (by decide) ?_
      refine lv_goto (tgt := 95) hx hb dX2_isBroken_91 (by decide) ?_
      exact W.zret (v := 1) hx hb hr (by decide) (fun t ht hW => ⟨⟨1, (I, G, A, L), rfl, ⟨by simp [brk, hs1, (Int32.not_le.mp c_9)], rfl⟩, by rw [ht]; exact hP, va_K.moved hW.alike hK⟩, hS.F ht⟩) hS.2.2 dX2_isBroken_95
  · rw [hs1]
    refine lv_tableIn (off := 92) (tgt := 96) hx hb dX2_isBroken_4 (by decide) (by decide) (by decide) (by decide) ?_
    refine lv_aload_n hx hb dX2_isBroken_96 rfl (lv_at hl 0 rfl) ?_
    refine lv_aload_n hx hb dX2_isBroken_97 rfl (lv_at hl 1 rfl) ?_
    refine lv_aload_n hx hb dX2_isBroken_98 rfl (lv_at hl 2 rfl) ?_
    refine vcV (As := [.ref (ad v), .ref (ad z)]) (rest := []) ⟨hx, hb, hml, hown, hts⟩ (c_X2_leastSum l D K ad hap0 q v z n hq hv hz I G A L hw) (cwV 2 hts gX2_isBroken_X2_leastSum rfl rfl rfl (by decide +kernel) ⟨Nat.le_of_ble_eq_true rfl, Nat.le_of_ble_eq_true rfl⟩) hK hP hS (by have := hq.1; omega) hq.2.1 (by decide) rfl rfl rfl hl.1 (Nat.le_of_ble_eq_true rfl) (Nat.le_of_ble_eq_true rfl) (Nat.le_of_ble_eq_true rfl) dX2_isBroken_99 (fun r10 u11 H locs hw hP hS => ?_) rfl
    obtain ⟨hr10, rfl⟩ := hw
    have hP : va_P D vwCl (VW K ad I G A L) H := hP
    subst hr10
    refine lv_aload_n hx hb dX2_isBroken_102 rfl (lv_at hl 0 rfl) ?_
    refine vgI hx hb hts hi2 hown hK hP (q) (by have := hq.1; omega) hq.2.1 (C := RX2) (T := TX2) (N := 7) rfl 1 (by decide) (by decide) (by decide) (by decide) (hts (.fieldLink RX2 15 "CrateHelpers$Rule" "c" "I") (by decide +kernel)) (fun _ h9 => h9) dX2_isBroken_103 ?_
    refine lv_icmp_gt (tgt := 122) hx hb dX2_isBroken_106 (by decide) (fun c_12 => ?_) (fun c_12 => ?_)
    · refine lv_iconst (v := 1) hx hb dX2_isBroken_122 (by decide) ?_
      refine lv_goto (tgt := 127) hx hb dX2_isBroken_123 (by decide) ?_
      exact W.zret (v := 1) hx hb hr (by decide) (fun t ht hW => ⟨⟨1, (I, G, A, L), rfl, ⟨by simp [brk, hs1, c_12], rfl⟩, by rw [ht]; exact hP, va_K.moved hW.alike hK⟩, hS.F ht⟩) hS.2.2 dX2_isBroken_127
    · refine lv_aload_n hx hb dX2_isBroken_109 rfl (lv_at hl 0 rfl) ?_
      refine lv_aload_n hx hb dX2_isBroken_110 rfl (lv_at hl 1 rfl) ?_
      refine lv_aload_n hx hb dX2_isBroken_111 rfl (lv_at hl 2 rfl) ?_
      refine vcV (As := [.ref (ad v), .ref (ad z)]) (rest := []) ⟨hx, hb, hml, hown, hts⟩ (c_X2_greatestSum l D K ad hap0 q v z n hq hv hz I G A L hw) (cwV 2 hts gX2_isBroken_X2_greatestSum rfl rfl rfl (by decide +kernel) ⟨Nat.le_of_ble_eq_true rfl, Nat.le_of_ble_eq_true rfl⟩) hK hP hS (by have := hq.1; omega) hq.2.1 (by decide) rfl rfl rfl hl.1 (Nat.le_of_ble_eq_true rfl) (Nat.le_of_ble_eq_true rfl) (Nat.le_of_ble_eq_true rfl) dX2_isBroken_112 (fun r13 u14 H locs hw hP hS => ?_) rfl
      obtain ⟨hr13, rfl⟩ := hw
      have hP : va_P D vwCl (VW K ad I G A L) H := hP
      subst hr13
      refine lv_aload_n hx hb dX2_isBroken_115 rfl (lv_at hl 0 rfl) ?_
      refine vgI hx hb hts hi2 hown hK hP (q) (by have := hq.1; omega) hq.2.1 (C := RX2) (T := TX2) (N := 7) rfl 1 (by decide) (by decide) (by decide) (by decide) (hts (.fieldLink RX2 15 "CrateHelpers$Rule" "c" "I") (by decide +kernel)) (fun _ h9 => h9) dX2_isBroken_116 ?_
      refine lv_icmp_ge (tgt := 126) hx hb dX2_isBroken_119 (by decide) (fun c_15 => ?_) (fun c_15 => ?_)
      · refine lv_iconst (v := 0) hx hb dX2_isBroken_126 (by decide) ?_
        exact W.zret (v := 0) hx hb hr (by decide) (fun t ht hW => ⟨⟨0, (I, G, A, L), rfl, ⟨by simp [brk, hs1, c_12, (Int32.not_lt.mpr c_15)], rfl⟩, by rw [ht]; exact hP, va_K.moved hW.alike hK⟩, hS.F ht⟩) hS.2.2 dX2_isBroken_127
      · refine lv_iconst (v := 1) hx hb dX2_isBroken_122 (by decide) ?_
        refine lv_goto (tgt := 127) hx hb dX2_isBroken_123 (by decide) ?_
        exact W.zret (v := 1) hx hb hr (by decide) (fun t ht hW => ⟨⟨1, (I, G, A, L), rfl, ⟨by simp [brk, hs1, c_12, (Int32.not_le.mp c_15)], rfl⟩, by rw [ht]; exact hP, va_K.moved hW.alike hK⟩, hS.F ht⟩) hS.2.2 dX2_isBroken_127
  · rw [hs1]
    refine lv_tableIn (off := 124) (tgt := 128) hx hb dX2_isBroken_4 (by decide) (by decide) (by decide) (by decide) ?_
    refine lv_aload_n hx hb dX2_isBroken_128 rfl (lv_at hl 0 rfl) ?_
    refine lv_aload_n hx hb dX2_isBroken_129 rfl (lv_at hl 1 rfl) ?_
    refine lv_iconst (v := 1) hx hb dX2_isBroken_130 (by decide) ?_
    refine vcV (As := [.ref (ad v), .int 1]) (rest := []) ⟨hx, hb, hml, hown, hts⟩ (c_X2_hasNear l D K ad hap0 q v z n hq hv hz 1 I G A L hw) (cwV 2 hts gX2_isBroken_X2_hasNear rfl rfl rfl (by decide +kernel) ⟨Nat.le_of_ble_eq_true rfl, Nat.le_of_ble_eq_true rfl⟩) hK hP hS (by have := hq.1; omega) hq.2.1 (by decide) rfl rfl rfl hl.1 (Nat.le_of_ble_eq_true rfl) (Nat.le_of_ble_eq_true rfl) (Nat.le_of_ble_eq_true rfl) dX2_isBroken_131 (fun r16 u17 H locs hw hP hS => ?_) rfl
    obtain ⟨hr16, rfl⟩ := hw
    have hP : va_P D vwCl (VW K ad I G A L) H := hP
    subst hr16
    exact W.zret (v := (ex1 (pna A q v n 1) n 0)) hx hb hr (nar01 (ex1_01 _ _ _)) (fun t ht hW => ⟨⟨(ex1 (pna A q v n 1) n 0), (I, G, A, L), rfl, ⟨by simp [brk, hs1], rfl⟩, by rw [ht]; exact hP, va_K.moved hW.alike hK⟩, hS.F ht⟩) hS.2.2 dX2_isBroken_134
  · rw [hs1]
    refine lv_tableIn (off := 131) (tgt := 135) hx hb dX2_isBroken_4 (by decide) (by decide) (by decide) (by decide) ?_
    refine lv_aload_n hx hb dX2_isBroken_135 rfl (lv_at hl 0 rfl) ?_
    refine lv_aload_n hx hb dX2_isBroken_136 rfl (lv_at hl 1 rfl) ?_
    refine lv_iconst (v := 1) hx hb dX2_isBroken_137 (by decide) ?_
    refine lv_aload_n hx hb dX2_isBroken_138 rfl (lv_at hl 0 rfl) ?_
    refine vgI hx hb hts hi2 hown hK hP (q) (by have := hq.1; omega) hq.2.1 (C := RX2) (T := TX2) (N := 7) rfl 1 (by decide) (by decide) (by decide) (by decide) (hts (.fieldLink RX2 15 "CrateHelpers$Rule" "c" "I") (by decide +kernel)) (fun _ h9 => h9) dX2_isBroken_139 ?_
    refine va_mmax hx hb (by rw [hml]; exact hl.1.symm) hown (hts (.methodLink RX2 50 Lib.Math.max.name) (by decide +kernel)) (hts (.static Lib.Math.max.name) (by decide +kernel)) (hts (.initialized "java/lang/Math") (by decide +kernel)) (hts (.code Lib.Math.max.name Lib.Math.max.code 2 (some .int)) (List.mem_of_getElem? (i := 6) rfl)) (Nat.le_of_ble_eq_true rfl) (Nat.le_of_ble_eq_true rfl) (Nat.le_of_ble_eq_true rfl) (Nat.le_of_ble_eq_true rfl) dX2_isBroken_142 ?_
    refine vcV (As := [.ref (ad v), .int (if 1 < (I q 1) then (I q 1) else 1)]) (rest := []) ⟨hx, hb, hml, hown, hts⟩ (c_X2_hasNear l D K ad hap0 q v z n hq hv hz (if 1 < (I q 1) then (I q 1) else 1) I G A L hw) (cwV 2 hts gX2_isBroken_X2_hasNear rfl rfl rfl (by decide +kernel) ⟨Nat.le_of_ble_eq_true rfl, Nat.le_of_ble_eq_true rfl⟩) hK hP hS (by have := hq.1; omega) hq.2.1 (by decide) rfl rfl rfl hl.1 (Nat.le_of_ble_eq_true rfl) (Nat.le_of_ble_eq_true rfl) (Nat.le_of_ble_eq_true rfl) dX2_isBroken_145 (fun r18 u19 H locs hw hP hS => ?_) rfl
    obtain ⟨hr18, rfl⟩ := hw
    have hP : va_P D vwCl (VW K ad I G A L) H := hP
    subst hr18
    exact W.zret (v := (ex1 (pna A q v n (if 1 < (I q 1) then (I q 1) else 1)) n 0)) hx hb hr (nar01 (ex1_01 _ _ _)) (fun t ht hW => ⟨⟨(ex1 (pna A q v n (if 1 < (I q 1) then (I q 1) else 1)) n 0), (I, G, A, L), rfl, ⟨by simp [brk, hs1], rfl⟩, by rw [ht]; exact hP, va_K.moved hW.alike hK⟩, hS.F ht⟩) hS.2.2 dX2_isBroken_148
  · rw [hs1]
    refine lv_tableIn (off := 145) (tgt := 149) hx hb dX2_isBroken_4 (by decide) (by decide) (by decide) (by decide) ?_
    refine lv_aload_n hx hb dX2_isBroken_149 rfl (lv_at hl 0 rfl) ?_
    refine lv_aload_n hx hb dX2_isBroken_150 rfl (lv_at hl 1 rfl) ?_
    refine vcV (As := [.ref (ad v)]) (rest := []) ⟨hx, hb, hml, hown, hts⟩ (c_X2_hasStepBelow l D K ad hap0 q v z n hq hv hz I G A L hw) (cwV 1 hts gX2_isBroken_X2_hasStepBelow rfl rfl rfl (by decide +kernel) ⟨Nat.le_of_ble_eq_true rfl, Nat.le_of_ble_eq_true rfl⟩) hK hP hS (by have := hq.1; omega) hq.2.1 (by decide) rfl rfl rfl hl.1 (Nat.le_of_ble_eq_true rfl) (Nat.le_of_ble_eq_true rfl) (Nat.le_of_ble_eq_true rfl) dX2_isBroken_151 (fun r20 u21 H locs hw hP hS => ?_) rfl
    obtain ⟨hr20, rfl⟩ := hw
    have hP : va_P D vwCl (VW K ad I G A L) H := hP
    subst hr20
    exact W.zret (v := (ex1 (pst I A q v) (n - 1) 0)) hx hb hr (nar01 (ex1_01 _ _ _)) (fun t ht hW => ⟨⟨(ex1 (pst I A q v) (n - 1) 0), (I, G, A, L), rfl, ⟨by simp [brk, hs1], rfl⟩, by rw [ht]; exact hP, va_K.moved hW.alike hK⟩, hS.F ht⟩) hS.2.2 dX2_isBroken_154
  · rw [hs1]
    refine lv_tableIn (off := 151) (tgt := 155) hx hb dX2_isBroken_4 (by decide) (by decide) (by decide) (by decide) ?_
    refine lv_aload_n hx hb dX2_isBroken_155 rfl (lv_at hl 0 rfl) ?_
    refine lv_aload_n hx hb dX2_isBroken_156 rfl (lv_at hl 1 rfl) ?_
    refine vcV (As := [.ref (ad v)]) (rest := []) ⟨hx, hb, hml, hown, hts⟩ (c_X2_willing l D K ad hap0 q v z n hq hv hz I G A L hw) (cwV 1 hts gX2_isBroken_X2_willing rfl rfl rfl (by decide +kernel) ⟨Nat.le_of_ble_eq_true rfl, Nat.le_of_ble_eq_true rfl⟩) hK hP hS (by have := hq.1; omega) hq.2.1 (by decide) rfl rfl rfl hl.1 (Nat.le_of_ble_eq_true rfl) (Nat.le_of_ble_eq_true rfl) (Nat.le_of_ble_eq_true rfl) dX2_isBroken_157 (fun r22 u23 H locs hw hP hS => ?_) rfl
    obtain ⟨hr22, rfl⟩ := hw
    have hP : va_P D vwCl (VW K ad I G A L) H := hP
    subst hr22
    refine lv_aload_n hx hb dX2_isBroken_160 rfl (lv_at hl 0 rfl) ?_
    refine vgI hx hb hts hi2 hown hK hP (q) (by have := hq.1; omega) hq.2.1 (C := RX2) (T := TX2) (N := 7) rfl 1 (by decide) (by decide) (by decide) (by decide) (hts (.fieldLink RX2 15 "CrateHelpers$Rule" "c" "I") (by decide +kernel)) (fun _ h9 => h9) dX2_isBroken_161 ?_
    refine lv_icmp_ge (tgt := 171) hx hb dX2_isBroken_164 (by decide) (fun c_24 => ?_) (fun c_24 => ?_)
    · refine lv_iconst (v := 0) hx hb dX2_isBroken_171 (by decide) ?_
      exact W.zret (v := 0) hx hb hr (by decide) (fun t ht hW => ⟨⟨0, (I, G, A, L), rfl, ⟨by simp [brk, hs1, (Int32.not_lt.mpr c_24)], rfl⟩, by rw [ht]; exact hP, va_K.moved hW.alike hK⟩, hS.F ht⟩) hS.2.2 dX2_isBroken_172
    · refine lv_iconst (v := 1) hx hb dX2_isBroken_167 (by decide) ?_
      refine lv_goto (tgt := 172) hx hb dX2_isBroken_168 (by decide) ?_
      exact W.zret (v := 1) hx hb hr (by decide) (fun t ht hW => ⟨⟨1, (I, G, A, L), rfl, ⟨by simp [brk, hs1, (Int32.not_le.mp c_24)], rfl⟩, by rw [ht]; exact hP, va_K.moved hW.alike hK⟩, hS.F ht⟩) hS.2.2 dX2_isBroken_172
  · refine lv_tableOut (tgt := 173) hx hb dX2_isBroken_4 hs1 (by decide) ?_
    refine lv_iconst (v := 0) hx hb dX2_isBroken_173 (by decide) ?_
    exact W.zret (v := 0) hx hb hr (by decide) (fun t ht hW => ⟨⟨0, (I, G, A, L), rfl, ⟨by have h9 := sw_ne7 hs1; simp [brk, h9], rfl⟩, by rw [ht]; exact hP, va_K.moved hW.alike hK⟩, hS.F ht⟩) hS.2.2 dX2_isBroken_174

set_option maxHeartbeats 4000000 in
set_option maxRecDepth 100000 in
/-- a part more -/
theorem c_X2_add (l : Launch) (D : va_G) (K : Nat → ClassId) (ad : Nat → Nat) (hap0 : apart ad (fun _ => True)) (q n x : Nat) (hq : RuAt q) (hn : n < 6) (hx6 : x < 6) (w : Int32) (I : Nat → Nat → Int32) (G : Nat → Nat → Nat) (A : Nat → Nat → Int32) (L : Nat → Nat → Int64) (hpn : I q 2 = nI n) : Cv l D K ad yX2_add wsX2_add 0 0 [.ref (ad q), .int (nI x), .int w] (I, G, A, L) (fun (u : Mem) => u = (up2 I q 2 (nI n + 1), G, up2 (up2 (up2 (up2 A (q + 1) n (nI x)) (q + 2) n w) (q + 3) x (vp_nar .boolean 1)) (q + 4) x w, L)) := by
  intro sz
  refine Met.ofW (cc := cX2_add) (maxL := 3) (ret := none) (by decide) rfl ?_
  intro p e s m args below meth c s₁ Bd hml hv0
  obtain ⟨rfl, hsz, hP, hK⟩ := hv0
  have hx := Bd.exec
  have hb := Bd.bytes
  have hr := Bd.returns
  have hts := atoms_spec (ws := wsX2_add) Bd.pre
  have hown : s.vm.findClass RX2 = some m.cls := findClass_of_methodNamed Bd.named
  have hlocks := Bd.notSynchronized
  have hi2 : ∀ w ∈ u_ws RX2 TX2 7, w ∈ wsX2_add := fun w h => List.mem_cons_of_mem _ (List.mem_append_right _ h)
  subst hsz
  have hap := vF_ap hap0 s.heap.size
  have hS : va_S (vF ad s.heap.size) s.heap s.heap [] := va_S.rf
  have hP : va_P D vwCl (VW K ad I G A L) s.heap := hP
  have hl := lv_entry ([.ref (ad q), .int (nI x), .int w]) (n := 3) (Nat.le_of_ble_eq_true rfl)
  rw [lg_entry_eq]
  generalize (lg_sl ([.ref (ad q), .int (nI x), .int w]) ++ List.replicate (3 - (lg_sl ([.ref (ad q), .int (nI x), .int w])).length) Slot.unset).toArray = ls at hl ⊢
  have hl : lv_has ls 3 [(0, .ref (ad q)), (1, .int (nI x)), (2, .int w)] := hl
  have hn1 : vp_in (nI n) (ln (q + 1)) := by rw [hq.2.2.2.2.2.2.1]; exact vp_in_nI hn (by omega)
  have hn2 : vp_in (nI n) (ln (q + 2)) := by rw [hq.2.2.2.2.2.2.2.1]; exact vp_in_nI hn (by omega)
  have hx3 : vp_in (nI x) (ln (q + 3)) := by rw [hq.2.2.2.2.2.2.2.2.1]; exact vp_in_nI hx6 (by omega)
  have hx4 : vp_in (nI x) (ln (q + 4)) := by rw [hq.2.2.2.2.2.2.2.2.2]; exact vp_in_nI hx6 (by omega)
  refine lv_aload_n hx hb dX2_add_0 rfl (lv_at hl 0 rfl) ?_
  refine vgS hx hb hts hi2 hown hK hP (q) (by have := hq.1; omega) hq.2.1 (C := RX2) (T := TX2) (N := 7) rfl 3 (by decide) (by decide) (by decide) (by decide) (q + 1) rfl (hts (.fieldLink RX2 21 "CrateHelpers$Rule" "variables" "[I") (by decide +kernel)) (fun _ h9 => h9) dX2_add_1 ?_
  refine lv_aload_n hx hb dX2_add_4 rfl (lv_at hl 0 rfl) ?_
  refine vgI hx hb hts hi2 hown hK hP (q) (by have := hq.1; omega) hq.2.1 (C := RX2) (T := TX2) (N := 7) rfl 2 (by decide) (by decide) (by decide) (by decide) (hts (.fieldLink RX2 18 "CrateHelpers$Rule" "parts" "I") (by decide +kernel)) (fun _ h9 => h9) dX2_add_5 ?_
  rw [hpn]
  refine lv_iload_n hx hb dX2_add_8 rfl (lv_at hl 1 rfl) ?_
  refine xiast hx hb hK hP hap hS (q + 1) (by have := hq.1; omega) hq.2.2.1 hn1 dX2_add_9 (fun H locs hP hS => ?_)
  rw [nI_clamp (n := n) (by omega)] at hP
  obtain ⟨A1, eA1⟩ : ∃ z, z = up2 A (q + 1) n ((nI x)) := ⟨_, rfl⟩
  rw [← eA1] at hP
  have hP : va_P D vwCl (VW K ad I G A1 L) H := hP
  refine lv_aload_n hx hb dX2_add_10 rfl (lv_at hl 0 rfl) ?_
  refine vgS hx hb hts hi2 hown hK hP (q) (by have := hq.1; omega) hq.2.1 (C := RX2) (T := TX2) (N := 7) rfl 4 (by decide) (by decide) (by decide) (by decide) (q + 2) rfl (hts (.fieldLink RX2 25 "CrateHelpers$Rule" "weights" "[I") (by decide +kernel)) (fun _ h9 => h9) dX2_add_11 ?_
  refine lv_aload_n hx hb dX2_add_14 rfl (lv_at hl 0 rfl) ?_
  refine vgI hx hb hts hi2 hown hK hP (q) (by have := hq.1; omega) hq.2.1 (C := RX2) (T := TX2) (N := 7) rfl 2 (by decide) (by decide) (by decide) (by decide) (hts (.fieldLink RX2 18 "CrateHelpers$Rule" "parts" "I") (by decide +kernel)) (fun _ h9 => h9) dX2_add_15 ?_
  rw [hpn]
  refine lv_iload_n hx hb dX2_add_18 rfl (lv_at hl 2 rfl) ?_
  refine xiast hx hb hK hP hap hS (q + 2) (by have := hq.1; omega) hq.2.2.2.1 hn2 dX2_add_19 (fun H locs hP hS => ?_)
  rw [nI_clamp (n := n) (by omega)] at hP
  obtain ⟨A2, eA2⟩ : ∃ z, z = up2 A1 (q + 2) n w := ⟨_, rfl⟩
  rw [← eA2] at hP
  have hP : va_P D vwCl (VW K ad I G A2 L) H := hP
  refine lv_aload_n hx hb dX2_add_20 rfl (lv_at hl 0 rfl) ?_
  refine vgS hx hb hts hi2 hown hK hP (q) (by have := hq.1; omega) hq.2.1 (C := RX2) (T := TX2) (N := 7) rfl 5 (by decide) (by decide) (by decide) (by decide) (q + 3) rfl (hts (.fieldLink RX2 28 "CrateHelpers$Rule" "isPart" "[Z") (by decide +kernel)) (fun _ h9 => h9) dX2_add_21 ?_
  refine lv_iload_n hx hb dX2_add_24 rfl (lv_at hl 1 rfl) ?_
  refine lv_iconst (v := 1) hx hb dX2_add_25 (by decide) ?_
  refine xzast hx hb hK hP hap hS (q + 3) (by have := hq.1; omega) hq.2.2.2.2.1 hx3 dX2_add_26 (fun H locs hP hS => ?_)
  rw [nI_clamp (n := x) (by omega)] at hP
  obtain ⟨A3, eA3⟩ : ∃ z, z = up2 A2 (q + 3) x (vp_nar .boolean 1) := ⟨_, rfl⟩
  rw [← eA3] at hP
  have hP : va_P D vwCl (VW K ad I G A3 L) H := hP
  refine lv_aload_n hx hb dX2_add_27 rfl (lv_at hl 0 rfl) ?_
  refine vgS hx hb hts hi2 hown hK hP (q) (by have := hq.1; omega) hq.2.1 (C := RX2) (T := TX2) (N := 7) rfl 6 (by decide) (by decide) (by decide) (by decide) (q + 4) rfl (hts (.fieldLink RX2 32 "CrateHelpers$Rule" "weightOf" "[I") (by decide +kernel)) (fun _ h9 => h9) dX2_add_28 ?_
  refine lv_iload_n hx hb dX2_add_31 rfl (lv_at hl 1 rfl) ?_
  refine lv_iload_n hx hb dX2_add_32 rfl (lv_at hl 2 rfl) ?_
  refine xiast hx hb hK hP hap hS (q + 4) (by have := hq.1; omega) hq.2.2.2.2.2.1 hx4 dX2_add_33 (fun H locs hP hS => ?_)
  rw [nI_clamp (n := x) (by omega)] at hP
  obtain ⟨A4, eA4⟩ : ∃ z, z = up2 A3 (q + 4) x w := ⟨_, rfl⟩
  rw [← eA4] at hP
  have hP : va_P D vwCl (VW K ad I G A4 L) H := hP
  refine lv_aload_n hx hb dX2_add_34 rfl (lv_at hl 0 rfl) ?_
  refine lv_dup hx hb dX2_add_35 rfl ?_
  refine vgI hx hb hts hi2 hown hK hP (q) (by have := hq.1; omega) hq.2.1 (C := RX2) (T := TX2) (N := 7) rfl 2 (by decide) (by decide) (by decide) (by decide) (hts (.fieldLink RX2 18 "CrateHelpers$Rule" "parts" "I") (by decide +kernel)) (fun _ h9 => h9) dX2_add_36 ?_
  rw [hpn]
  refine lv_iconst (v := 1) hx hb dX2_add_39 (by decide) ?_
  refine lv_iadd hx hb dX2_add_40 ?_
  refine vpI (v := ((nI n) + 1)) (ty := .int) hx hb hts hi2 tyX2 tyX2_ok nmX2 hown hK hP hap hS (q) (by have := hq.1; omega) hq.2.1 (C := RX2) (T := TX2) (N := 7) rfl 2 (by decide) (by decide) (by decide) (by decide) (hts (.fieldLink RX2 18 "CrateHelpers$Rule" "parts" "I") (by decide +kernel)) (fun _ h9 => h9) rfl (by decide +kernel) rfl rfl dX2_add_41 (fun H locs hP hS => ?_)
  obtain ⟨I5, eI5⟩ : ∃ z, z = up2 I q 2 ((nI n) + 1) := ⟨_, rfl⟩
  rw [← eI5] at hP
  have hP : va_P D vwCl (VW K ad I5 G A4 L) H := hP
  exact W.vret hx hb hr (fun t ht hW => ⟨⟨(I5, G, A4, L), rfl, by rw [eI5, eA4, eA3, eA2, eA1], by rw [ht]; exact hP, va_K.moved hW.alike hK⟩, hS.F ht⟩) hS.2.2 dX2_add_44
