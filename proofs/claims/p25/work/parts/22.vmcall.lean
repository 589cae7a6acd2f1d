/-- what memory is: I, G, A, L -/
abbrev Mem : Type := (Nat → Nat → Int32) × (Nat → Nat → Nat) × (Nat → Nat → Int32) × (Nat → Nat → Int64)
abbrev VM (K : Nat → ClassId) (ad : Nat → Nat) (M : Mem) : va_W := VW K ad M.1 M.2.1 M.2.2.1 M.2.2.2
/-- the cells that a method may change: the slots, and what is new -/
def vF (ad : Nat → Nat) (sz : Nat) : Nat → Prop := fun q => (∃ j, j < NS ∧ q = ad j) ∨ sz ≤ q
theorem vF_ap {ad : Nat → Nat} (h : apart ad (fun _ => True)) (sz : Nat) : apart ad (vF ad sz) := ⟨h.1, fun j hj => Or.inl ⟨j, hj, rfl⟩⟩
/-- a method's start: the memory lies in the heap -/
abbrev vP (D : va_G) (K : Nat → ClassId) (ad : Nat → Nat) (av : List Value) (M : Mem) (sz : Nat) : Array Value → State → Prop := va_Pc av (fun U => U.heap.size = sz ∧ va_P D vwCl (VM K ad M) U.heap ∧ va_K D vwCl (tyA K) U)
/-- its end -/
abbrev vB (D : va_G) (K : Nat → ClassId) (ad : Nat → Nat) (u : Mem) (t : State) : Prop := va_P D vwCl (VM K ad u) t.heap ∧ va_K D vwCl (tyA K) t
/-- a contract of a method with an int or boolean answer, and of one with none -/
def Ci (l : Launch) (D : va_G) (K : Nat → ClassId) (ad : Nat → Nat) (y : MethodName) (ws : List Cond) (fr lo : Nat) (av : List Value) (M : Mem) (post : Int32 → Mem → Prop) : Prop := ∀ sz : Nat, Met l y ws ({ frames := fr, cells := 0, slots := 0, locals := lo }) (vP D K ad av M sz) (va_Qi post (vB D K ad) (vF ad sz)) 0 0 (vF ad sz)
def Cv (l : Launch) (D : va_G) (K : Nat → ClassId) (ad : Nat → Nat) (y : MethodName) (ws : List Cond) (fr lo : Nat) (av : List Value) (M : Mem) (post : Mem → Prop) : Prop := ∀ sz : Nat, Met l y ws ({ frames := fr, cells := 0, slots := 0, locals := lo }) (vP D K ad av M sz) (va_Qv post (vB D K ad) (vF ad sz)) 0 0 (vF ad sz)
theorem vP_blind {D : va_G} {K : Nat → ClassId} {ad : Nat → Nat} {av : List Value} {M : Mem} {sz : Nat} : FrameBlind (vP D K ad av M sz) := fun a U g mk q => by
  obtain ⟨q0, q1, qP, qK⟩ := q
  exact ⟨q0, q1, qP, va_K.moved (u := U) (U := U.calling g mk a) (Vm.Alike.refl U.vm) qK⟩
section VMC
variable {p : Program} {l : Launch} {e : Env} {R : Room} {s : State} {m : MethodId} {args : Array Value} {below : List Frame} {meth : Method} {c : Code} {H : Heap} {locs : List Loc} {cells slots : Nat} {Q : State → Prop}
variable {pc : Nat} {ls : Array Slot} {rest : List Value} {D : va_G} {K : Nat → ClassId} {ad : Nat → Nat} {M : Mem}
variable {y : MethodName} {bytes cc : ByteArray} {maxL nL n index fr lo : Nat} {ret : Option FieldType} {ws : List Cond} {Ts : List Cond} {own C : String} {As : List Value} {j : Nat}
theorem vF_in {hS : va_S (vF ad s.heap.size) s.heap H locs} : ∀ q, vF ad H.size q → vF ad s.heap.size q := fun q h => h.imp id (fun r => Nat.le_trans hS.1 r)
/-- invokevirtual, an int comes -/
theorem vcV {post : Int32 → Mem → Prop} (S : CallFix p m c cc nL s args Ts own) (hM : Ci l D K ad y ws fr lo (.ref (ad j) :: As) M post) (cw : CallW R s args own C index y bytes maxL ret ws ({ frames := fr, cells := 0, slots := 0, locals := lo }) 0 0 n) (hK : va_K D vwCl (tyA K) s) (hP : va_P D vwCl (VM K ad M) H) (hS : va_S (vF ad s.heap.size) s.heap H locs) {ci : Nat} {cq : vw_C} (hj : j < NS) (hd : kd j = ci) (hci : ci < 8) (hc : vwCl[ci]? = some cq) (hC : cq.1 = C)
    (hn : As.length = n) (hl : ls.size = nL) (hroom : (rest.map fun v => v.category).sum ≤ 8) (hcl : cells ≤ R.cells) (hsl : slots ≤ R.slots) (hdg : decode cc pc = .ok (.invokevirtual index, 3))
    (kk : ∀ (r : Int32) (u : Mem) (H1 : Heap) (locs1 : List Loc), post r u → va_P D vwCl (VM K ad u) H1 → va_S (vF ad s.heap.size) s.heap H1 locs1 → W p l e R s m args below meth c H1 locs1 cells slots Q (F0 m (pc + 3) ls (.int r :: rest))) {st : List Value} (hst : st = As.reverse ++ .ref (ad j) :: rest) : W p l e R s m args below meth c H locs cells slots Q (F0 m pc ls st) := by
  subst hst
  subst hC
  refine va_calli (va_runV (As := As) (rest := rest) S (hM H.size) cw ⟨vP_blind, va_recv hK hP (ci := ci) (q0 := j) hc (VWo hj hd hci), fun U hU hW => ⟨rfl, by rw [hU], by rw [hU]; exact hP, va_K.moved hW.alike hK⟩⟩ rfl hn hl rfl (lv_room hroom) hdg ⟨hcl, hsl⟩) hS (fun q _ h => vF_in (hS := hS) q h) (vF_in (hS := hS)) (fun r u t H1 locs1 ht hvm hw hB hz1 hk1 hS1 => ?_)
  obtain ⟨hP1, hK1⟩ := hB
  rw [ht] at hP1
  exact kk r u H1 locs1 hw hP1 hS1
/-- invokevirtual, nothing comes -/
theorem vcVv {post : Mem → Prop} (S : CallFix p m c cc nL s args Ts own) (hM : Cv l D K ad y ws fr lo (.ref (ad j) :: As) M post) (cw : CallW R s args own C index y bytes maxL ret ws ({ frames := fr, cells := 0, slots := 0, locals := lo }) 0 0 n) (hK : va_K D vwCl (tyA K) s) (hP : va_P D vwCl (VM K ad M) H) (hS : va_S (vF ad s.heap.size) s.heap H locs) {ci : Nat} {cq : vw_C} (hj : j < NS) (hd : kd j = ci) (hci : ci < 8) (hc : vwCl[ci]? = some cq) (hC : cq.1 = C)
    (hn : As.length = n) (hl : ls.size = nL) (hroom : (rest.map fun v => v.category).sum ≤ 8) (hcl : cells ≤ R.cells) (hsl : slots ≤ R.slots) (hdg : decode cc pc = .ok (.invokevirtual index, 3))
    (kk : ∀ (u : Mem) (H1 : Heap) (locs1 : List Loc), post u → va_P D vwCl (VM K ad u) H1 → va_S (vF ad s.heap.size) s.heap H1 locs1 → W p l e R s m args below meth c H1 locs1 cells slots Q (F0 m (pc + 3) ls rest)) {st : List Value} (hst : st = As.reverse ++ .ref (ad j) :: rest) : W p l e R s m args below meth c H locs cells slots Q (F0 m pc ls st) := by
  subst hst
  subst hC
  refine va_callv (va_runV (As := As) (rest := rest) S (hM H.size) cw ⟨vP_blind, va_recv hK hP (ci := ci) (q0 := j) hc (VWo hj hd hci), fun U hU hW => ⟨rfl, by rw [hU], by rw [hU]; exact hP, va_K.moved hW.alike hK⟩⟩ rfl hn hl rfl (lv_room hroom) hdg ⟨hcl, hsl⟩) hS (fun q _ h => vF_in (hS := hS) q h) (vF_in (hS := hS)) (fun u t H1 locs1 ht hvm hw hB hz1 hk1 hS1 => ?_)
  obtain ⟨hP1, hK1⟩ := hB
  rw [ht] at hP1
  exact kk u H1 locs1 hw hP1 hS1
/-- invokestatic, an int comes -/
theorem vcS {post : Int32 → Mem → Prop} (S : CallFix p m c cc nL s args Ts own) (hM : Ci l D K ad y ws fr lo As M post) (cw : CallB R s args own index y bytes maxL ret ws ({ frames := fr, cells := 0, slots := 0, locals := lo }) 0 0 n ∧ (Cond.static y).before args s = true) (hK : va_K D vwCl (tyA K) s) (hP : va_P D vwCl (VM K ad M) H) (hS : va_S (vF ad s.heap.size) s.heap H locs)
    (hn : As.length = n) (hl : ls.size = nL) (hroom : (rest.map fun v => v.category).sum ≤ 8) (hcl : cells ≤ R.cells) (hsl : slots ≤ R.slots) (hdg : decode cc pc = .ok (.invokestatic index, 3))
    (kk : ∀ (r : Int32) (u : Mem) (H1 : Heap) (locs1 : List Loc), post r u → va_P D vwCl (VM K ad u) H1 → va_S (vF ad s.heap.size) s.heap H1 locs1 → W p l e R s m args below meth c H1 locs1 cells slots Q (F0 m (pc + 3) ls (.int r :: rest))) {st : List Value} (hst : st = As.reverse ++ rest) : W p l e R s m args below meth c H locs cells slots Q (F0 m pc ls st) := by
  subst hst
  refine va_calli (va_runS (As := As) (rest := rest) S (hM H.size) cw ⟨vP_blind, fun U hU hW => ⟨rfl, by rw [hU], by rw [hU]; exact hP, va_K.moved hW.alike hK⟩⟩ rfl hn hl rfl (lv_room hroom) hdg ⟨hcl, hsl⟩) hS (fun q _ h => vF_in (hS := hS) q h) (vF_in (hS := hS)) (fun r u t H1 locs1 ht hvm hw hB hz1 hk1 hS1 => ?_)
  obtain ⟨hP1, hK1⟩ := hB
  rw [ht] at hP1
  exact kk r u H1 locs1 hw hP1 hS1
/-- invokestatic, nothing comes -/
theorem vcSv {post : Mem → Prop} (S : CallFix p m c cc nL s args Ts own) (hM : Cv l D K ad y ws fr lo As M post) (cw : CallB R s args own index y bytes maxL ret ws ({ frames := fr, cells := 0, slots := 0, locals := lo }) 0 0 n ∧ (Cond.static y).before args s = true) (hK : va_K D vwCl (tyA K) s) (hP : va_P D vwCl (VM K ad M) H) (hS : va_S (vF ad s.heap.size) s.heap H locs)
    (hn : As.length = n) (hl : ls.size = nL) (hroom : (rest.map fun v => v.category).sum ≤ 8) (hcl : cells ≤ R.cells) (hsl : slots ≤ R.slots) (hdg : decode cc pc = .ok (.invokestatic index, 3))
    (kk : ∀ (u : Mem) (H1 : Heap) (locs1 : List Loc), post u → va_P D vwCl (VM K ad u) H1 → va_S (vF ad s.heap.size) s.heap H1 locs1 → W p l e R s m args below meth c H1 locs1 cells slots Q (F0 m (pc + 3) ls rest)) {st : List Value} (hst : st = As.reverse ++ rest) : W p l e R s m args below meth c H locs cells slots Q (F0 m pc ls st) := by
  subst hst
  refine va_callv (va_runS (As := As) (rest := rest) S (hM H.size) cw ⟨vP_blind, fun U hU hW => ⟨rfl, by rw [hU], by rw [hU]; exact hP, va_K.moved hW.alike hK⟩⟩ rfl hn hl rfl (lv_room hroom) hdg ⟨hcl, hsl⟩) hS (fun q _ h => vF_in (hS := hS) q h) (vF_in (hS := hS)) (fun u t H1 locs1 ht hvm hw hB hz1 hk1 hS1 => ?_)
  obtain ⟨hP1, hK1⟩ := hB
  rw [ht] at hP1
  exact kk u H1 locs1 hw hP1 hS1
end VMC
