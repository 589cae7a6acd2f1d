/-! WORLDS WITH TAILS: [cells in hand] ++ (ta ++ tb); a constructor's new cells are laid aside into ta -/
theorem app2 {α : Type} {a a' b b' : List α} (h : a = a') (k : b = b') : a ++ b = a' ++ b' := by rw [h, k]
section TL
variable {D : va_G} {cl : List vw_C} {H H1 : Heap} {A A0 : Nat → Prop}
theorem tl_Pm {ws : va_W} : va_P D cl ws H ↔ ∀ q ∈ ws, va_at D cl q H := ⟨fun h q hq => by
  obtain ⟨k, hk⟩ := List.getElem?_of_mem hq
  exact h k q hk, fun h k q hk => h q (List.mem_of_getElem? hk)⟩
theorem tl_P {a b : va_W} (p : a.Perm b) (h : va_P D cl a H) : va_P D cl b H := tl_Pm.mpr fun q hq => tl_Pm.mp h q (p.mem_iff.mpr hq)
theorem tl_Dm {ws : va_W} : va_D A ws ↔ (ws.map Prod.fst).Nodup ∧ ∀ q ∈ ws, A q.1 := by
  constructor
  · intro h
    refine ⟨?_, fun q hq => ?_⟩
    · refine List.pairwise_iff_getElem.mpr fun i j hi hj hij => ?_
      intro e
      rw [List.length_map] at hi hj
      rw [List.getElem_map, List.getElem_map] at e
      have := h.1 i j _ _ (List.getElem?_eq_getElem hi) (List.getElem?_eq_getElem hj) e
      omega
    · obtain ⟨k, hk⟩ := List.getElem?_of_mem hq
      exact h.2 k q hk
  · intro h
    refine ⟨fun i j p q hi hj e => ?_, fun k q hk => h.2 q (List.mem_of_getElem? hk)⟩
    obtain ⟨li, ei⟩ := List.getElem?_eq_some_iff.mp hi
    obtain ⟨lj, ej⟩ := List.getElem?_eq_some_iff.mp hj
    have hp := List.pairwise_iff_getElem.mp h.1
    rcases Nat.lt_trichotomy i j with r | r | r
    · exact absurd (by rw [List.getElem_map, List.getElem_map, ei, ej]; exact e) (hp i j (by rw [List.length_map]; exact li) (by rw [List.length_map]; exact lj) r)
    · exact r
    · exact absurd (by rw [List.getElem_map, List.getElem_map, ei, ej]; exact e.symm) (hp j i (by rw [List.length_map]; exact lj) (by rw [List.length_map]; exact li) r)
theorem tl_D {a b : va_W} (p : a.Perm b) (h : va_D A a) : va_D A b := by
  rw [tl_Dm] at h ⊢
  exact ⟨(p.map Prod.fst).nodup_iff.mp h.1, fun q hq => h.2 q (p.mem_iff.mpr hq)⟩
theorem tl_rot {l t n : va_W} : ((l ++ t) ++ n).Perm ((l ++ n) ++ t) := by
  rw [List.append_assoc, List.append_assoc]
  exact List.Perm.append_left l List.perm_append_comm
theorem tl_park {k x ta tb : va_W} : ((k ++ x) ++ (ta ++ tb)).Perm (k ++ ((ta ++ x) ++ tb)) := by
  rw [List.append_assoc]
  refine List.Perm.append_left k ?_
  rw [← List.append_assoc]
  exact List.Perm.append_right tb List.perm_append_comm
/-- a problem came: its object in hand -/
theorem tl_prob {l x ta tb b : va_W} : ((l ++ (ta ++ tb)) ++ (x ++ b)).Perm ((l ++ x) ++ (ta ++ (tb ++ b))) := by
  have h1 : ((l ++ (ta ++ tb)) ++ (x ++ b)).Perm (((l ++ (ta ++ tb)) ++ x) ++ b) := by rw [List.append_assoc (l ++ (ta ++ tb)) x b]
  refine h1.trans ?_
  have h2 : ((l ++ x) ++ (ta ++ (tb ++ b))) = (((l ++ x) ++ (ta ++ tb)) ++ b) := by simp only [List.append_assoc]
  rw [h2]
  exact List.Perm.append_right b tl_rot
/-- its object goes before its other cells -/
theorem tl_prob2 {l x ta tb b : va_W} : ((l ++ x) ++ (ta ++ (tb ++ b))).Perm (l ++ (ta ++ (tb ++ (x ++ b)))) := by
  have h2 : (l ++ (ta ++ (tb ++ (x ++ b)))) = (((l ++ (ta ++ tb)) ++ x) ++ b) := by simp only [List.append_assoc]
  have h3 : ((l ++ x) ++ (ta ++ (tb ++ b))) = (((l ++ x) ++ (ta ++ tb)) ++ b) := by simp only [List.append_assoc]
  rw [h2, h3]
  exact List.Perm.append_right b tl_rot.symm
theorem tl_nd : ∀ (l : List Nat), va_nd l = true ↔ l.Nodup
  | [] => by simp [va_nd]
  | a :: l => by simp [va_nd, tl_nd l]
theorem tl_rg (l t : va_W) : (List.range' l.length t.length).map (fun i => (l ++ t)[i]?) = t.map some := by
  apply List.ext_getElem?
  intro i
  rw [List.getElem?_map, List.getElem?_map]
  by_cases h : i < t.length
  · rw [List.getElem?_range' h]
    simp [h]
  · rw [List.getElem?_eq_none (by rw [List.length_range']; omega), List.getElem?_eq_none (by omega)]
    rfl
theorem tl_idx {lits tl wr : va_W} {isR : List Nat} (hR : isR.map (fun i => (lits ++ tl)[i]?) = wr.map some) : (isR ++ List.range' lits.length tl.length).map (fun i => (lits ++ tl)[i]?) = (wr ++ tl).map some := by
  rw [List.map_append, List.map_append, hR, tl_rg]
theorem tl_ndR {lits tl : va_W} {isR : List Nat} (hn : va_nd isR = true) (hb : ∀ i ∈ isR, i < lits.length) : va_nd (isR ++ List.range' lits.length tl.length) = true := by
  rw [tl_nd, List.nodup_append]
  refine ⟨(tl_nd _).mp hn, List.nodup_range', fun a ha b hb' => ?_⟩
  have := hb a ha
  rw [List.mem_range'_1] at hb'
  omega
theorem tl_join {lits tl wc wr w1 : va_W} (hP : va_P D cl (lits ++ tl) H) (hD : va_D A0 (lits ++ tl)) (isC isR : List Nat) (hC : isC.map (fun i => (lits ++ tl)[i]?) = wc.map some) (hR : isR.map (fun i => (lits ++ tl)[i]?) = wr.map some) (hn : va_nd isR = true) (hdis : ∀ i ∈ isR, i ∉ isC) (n : Nat) (hlen : lits.length = n) (hbR : ∀ i ∈ isR, i < n) (hbC : ∀ i ∈ isC, i < n)
    (hk : ∀ q : Nat, q < H.size → ¬ va_A wc H.size q → H1[q]? = H[q]?) (hF : ∀ q, va_A wc H.size q → A0 q) (hP1 : va_P D cl w1 H1) (hD1 : va_D (va_A wc H.size) w1) : va_P D cl ((wr ++ tl) ++ w1) H1 ∧ va_D A0 ((wr ++ tl) ++ w1) := by
  refine va_join hP hD isC (isR ++ List.range' lits.length tl.length) hC (tl_idx hR) (tl_ndR hn (fun i hi => by rw [hlen]; exact hbR i hi)) (fun i hi hc => ?_) hk hF hP1 hD1
  rcases List.mem_append.mp hi with h | h
  · exact hdis i h hc
  · have := hbC i hc
    rw [List.mem_range'_1, hlen] at h
    omega
/-- the cells in hand, in another order -/
theorem tl_subP {lits tl wr : va_W} (hP : va_P D cl (lits ++ tl) H) (isR : List Nat) (hR : isR.map (fun i => (lits ++ tl)[i]?) = wr.map some) : va_P D cl (wr ++ tl) H := by
  refine hP.sub (isR ++ List.range' lits.length tl.length) ?_
  have h := tl_idx hR
  have : ∀ (l : List Nat) (w : va_W), l.map (fun i => (lits ++ tl)[i]?) = w.map some → l.filterMap (fun i => (lits ++ tl)[i]?) = w := by
    intro l
    induction l with
    | nil => intro w h; cases w with
      | nil => rfl
      | cons a b => simp at h
    | cons x l ih => intro w h; cases w with
      | nil => simp at h
      | cons a b =>
        rw [List.map_cons, List.map_cons] at h
        obtain ⟨h1, h2⟩ := List.cons.inj h
        rw [List.filterMap_cons, h1]
        show a :: _ = _
        rw [ih b h2]
  exact this _ _ h
theorem tl_subD {lits tl wr : va_W} (hD : va_D A (lits ++ tl)) (isR : List Nat) (hn : va_nd isR = true) (n : Nat) (hlen : lits.length = n) (hb : ∀ i ∈ isR, i < n) (hR : isR.map (fun i => (lits ++ tl)[i]?) = wr.map some) : va_D A (wr ++ tl) := hD.sub _ (tl_ndR hn (fun i hi => by rw [hlen]; exact hb i hi)) (tl_idx hR)
theorem tl_eqP {a b : va_W} (e : a = b) (h : va_P D cl a H) : va_P D cl b H := e ▸ h
theorem tl_eqD {a b : va_W} (e : a = b) (h : va_D A a) : va_D A b := e ▸ h
/-- one class for a type -/
theorem ty_u {tys : List (ClassId × FieldType)} {U : State} (hK : va_K D cl tys U) {ty : FieldType} {c c' : ClassId} (i j : Nat) (hi : tys[i]? = some (c, ty)) (hj : tys[j]? = some (c', ty)) : c = c' := by
  have a := (hK.2 i _ hi).2
  have b := (hK.2 j _ hj).2
  cases ty with
  | object C =>
    obtain ⟨_, _, _, _, _, a⟩ := a
    obtain ⟨_, _, _, _, _, b⟩ := b
    exact Option.some.inj (a.symm.trans b)
  | _ => exact Option.some.inj (a.symm.trans b)
end TL
/-- the array classes -/
def tyL (K : Nat → ClassId) : List (ClassId × FieldType) := [(K 0, .int), (K 1, .byte), (K 2, .short), (K 3, .boolean), (K 4, .long), (K 5, .object RX1), (K 6, .object RX2), (K 7, .array .int)]
section GQ
variable {p : Program} {l : Launch} {e : Env} {R : Room} {s : State} {m : MethodId} {args : Array Value} {below : List Frame} {meth : Method} {c : Code} {H : Heap} {locs : List Loc} {cells slots : Nat} {Q : State → Prop}
variable {cc : ByteArray} {pc : Nat} {ls : Array Slot} {rest : List Value} {D : va_G} {cl : List vw_C} {A : Nat → Prop} {ws : va_W} {H0 : Heap} {tys : List (ClassId × FieldType)}
theorem gd_top6 (cA : ClassId) (h : Nat) : gd_top cA 6 h 6 = vp_cell cA (6, .inr (.inr (.inr (.inr (fun i => if i < 6 then some (h + 1 + i) else none))))) := by
  simp [gd_top, Cell.setSlot, vp_cell, arrV, va_rf]
  rfl
theorem gd_row6 (cB : ClassId) : gd_row cB 6 (defaultValue .int) = vp_cell cB (6, .inl (fun _ => 0)) := by
  simp [gd_row, vp_cell, arrV, defaultValue]
  rfl
theorem gd_rows (T : State) (cA cB : ClassId) (n k : Nat) (v : Value) (i j : Nat) (hj : j < i) : (gd_st T cA cB n k v i).heap[T.heap.size + 1 + j]? = some (gd_row cB k v) := by
  induction i with
  | zero => omega
  | succ i ih =>
    have f := (gd_st_f T cA cB n k v i).1
    show (((gd_st T cA cB n k v i).pushCell (gd_row cB k v)).setCell T.heap.size _).heap[T.heap.size + 1 + j]? = _
    rw [State.heap_setCell_other (show T.heap.size ≠ T.heap.size + 1 + j by omega)]
    by_cases h : j < i
    · rw [State.heap_pushCell_of_lt (h := show T.heap.size + 1 + j < (gd_st T cA cB n k v i).heap.size by omega)]
      exact ih h
    · have hji : j = i := by omega
      subst hji
      have : (gd_st T cA cB n k v j).heap.size = T.heap.size + 1 + j := f
      simp [State.pushCell, ← this]
/-- new int[6][6], with all its cells -/
theorem mn_row6 (hexec : p.tables.exec = Jvm.exec) (hb : c.code = cc) {own : String} {index : Nat} (hown : s.vm.findClass own = some m.cls) (hclink : (Cond.classLink own index "[[I").before args s = true) (hover : va_AOA .int s) (harr : (Cond.arrayClass .int).before args s = true) (hK : va_K D cl tys s) {cA cB : ClassId} (i7 i0 : Nat) (h7 : tys[i7]? = some (cA, .array .int)) (h0 : tys[i0]? = some (cB, .int))
    (hP : va_P D cl ws H) (hD : va_D A ws) (hS : va_S A H0 H locs) (hA : ∀ q, H0.size ≤ q → A q) (hcells : cells + (1 + 6) ≤ R.cells) (hslots : slots + (6 + 6 * 6) ≤ R.slots) (hdg : decode cc pc = .ok (.multianewarray index 2, 4))
    (kk : ∀ (q : Nat) (H1 : Heap), va_P D cl (ws ++ [(q, .inl (cA, 6, .inr (.inr (.inr (.inr (fun i => if i < 6 then some (q + 1 + i) else none)))))), (q + 1, .inl (cB, 6, .inl (fun _ => 0))), (q + 1 + 1, .inl (cB, 6, .inl (fun _ => 0))), (q + 1 + 2, .inl (cB, 6, .inl (fun _ => 0))), (q + 1 + 3, .inl (cB, 6, .inl (fun _ => 0))), (q + 1 + 4, .inl (cB, 6, .inl (fun _ => 0))), (q + 1 + 5, .inl (cB, 6, .inl (fun _ => 0)))]) H1 → va_D A (ws ++ [(q, .inl (cA, 6, .inr (.inr (.inr (.inr (fun i => if i < 6 then some (q + 1 + i) else none)))))), (q + 1, .inl (cB, 6, .inl (fun _ => 0))), (q + 1 + 1, .inl (cB, 6, .inl (fun _ => 0))), (q + 1 + 2, .inl (cB, 6, .inl (fun _ => 0))), (q + 1 + 3, .inl (cB, 6, .inl (fun _ => 0))), (q + 1 + 4, .inl (cB, 6, .inl (fun _ => 0))), (q + 1 + 5, .inl (cB, 6, .inl (fun _ => 0)))]) → va_S A H0 H1 locs → W p l e R s m args below meth c H1 locs (cells + 1 + 6) (slots + 6 + 6 * 6) Q (F0 m (pc + 4) ls (.ref q :: rest))) : W p l e R s m args below meth c H locs cells slots Q (F0 m pc ls (.int 6 :: .int 6 :: rest)) := by
  intro T hT X
  have e6 : (6 : Int32).toNatClampNeg = 6 := by decide
  obtain ⟨vm1, cA', cB', fA, fB, X', step⟩ := gd_step (ty := .int) X hexec hown (by rw [show ("[" ++ (FieldType.array FieldType.int).toString) = "[[I" from by decide]; exact hclink) (va_AOA.use hover) harr (g := F0 m pc ls (.int 6 :: .int 6 :: rest)) rfl (by rw [hb]; exact hdg) rfl (by decide) (by decide) (by rw [e6]; decide) (by rw [e6]; decide) (by rw [e6]; decide) (by decide) (by decide) (by rw [e6]; exact hcells) (by rw [e6]; exact hslots)
  rw [e6] at X' step
  obtain rfl : cA = cA' := Option.some.inj ((hK.2 i7 _ h7).2.symm.trans fA)
  obtain rfl : cB = cB' := Option.some.inj ((hK.2 i0 _ h0).2.symm.trans fB)
  have hTh : (T.setVm vm1).heap = H := hT
  have f1 := gd_st_f (T.setVm vm1) cA cB 6 6 (defaultValue .int) 6
  have f2 : ∀ j, j < 6 → _ := fun j hj => gd_rows (T.setVm vm1) cA cB 6 6 (defaultValue .int) 6 j hj
  have hold : ∀ x : Nat, x < H.size → (gd_st (T.setVm vm1) cA cB 6 6 (defaultValue .int) 6).heap[x]? = H[x]? := fun x hx => by
    have := gd_st_old (T.setVm vm1) cA cB 6 6 (defaultValue .int) (a := x) (by rw [hTh]; exact hx) 6
    rw [hTh] at this
    exact this
  rw [hTh] at f1
  simp only [hTh] at f2
  have hsz := f1.1
  have c0 := f1.2.1
  rw [gd_top6] at c0
  rw [gd_row6] at f2
  have hTs : T.heap.size = H.size := by rw [← hTh]; rfl
  rw [hTs] at step
  have lt : ∀ (k : Nat) (q : Nat × va_E), ws[k]? = some q → q.1 < H.size := fun k q hq => (hP k q hq).lt
  obtain ⟨t, a1, b1⟩ := kk H.size _ (va_P.app (hP.kept (fun k9 x hx => hold x.1 (lt k9 x hx))) (tl_Pm.mpr (fun q hq => by
      simp only [List.mem_cons, List.mem_nil_iff, or_false] at hq
      rcases hq with rfl | rfl | rfl | rfl | rfl | rfl | rfl
      · exact c0
      · exact f2 0 (by omega)
      · exact f2 1 (by omega)
      · exact f2 2 (by omega)
      · exact f2 3 (by omega)
      · exact f2 4 (by omega)
      · exact f2 5 (by omega)))) (va_D.app hD (tl_Dm.mpr ⟨by simp; omega, fun q hq => by
      have hs1 := hS.1
      simp only [List.mem_cons, List.mem_nil_iff, or_false] at hq
      rcases hq with rfl | rfl | rfl | rfl | rfl | rfl | rfl <;> exact hA _ (by simp only []; omega)⟩) (fun i j x y hx hy hxy => by
      have h1 := lt i x hx
      have hq := List.mem_of_getElem? hy
      simp only [List.mem_cons, List.mem_nil_iff, or_false] at hq
      rcases hq with rfl | rfl | rfl | rfl | rfl | rfl | rfl <;> (simp only [] at hxy; omega)))
    ⟨by rw [hsz]; have := hS.1; omega, fun q h1 h2 => by rw [hold q (Nat.lt_of_lt_of_le h1 hS.1)]; exact hS.2.1 q h1 h2, hS.2.2⟩ _ rfl X'
  exact ⟨t, step t a1, b1⟩
end GQ
