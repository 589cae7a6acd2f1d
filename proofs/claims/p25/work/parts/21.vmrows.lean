section VMQ
variable {K : Nat → ClassId} {ad : Nat → Nat} {I : Nat → Nat → Int32} {G : Nat → Nat → Nat} {A : Nat → Nat → Int32} {L : Nat → Nat → Int64} {j : Nat}
theorem VW8 (hj : j < NS) (hd : kd j = 8) : (VW K ad I G A L)[j]? = some (ad j, .inl (K 0, ln j, .inl (A j))) := (VW_at hj).trans (by rw [cell_a hd (by decide) (by decide)]; rfl)
theorem VW9 (hj : j < NS) (hd : kd j = 9) : (VW K ad I G A L)[j]? = some (ad j, .inl (K 1, ln j, .inl (A j))) := (VW_at hj).trans (by rw [cell_a hd (by decide) (by decide)]; rfl)
theorem VW10 (hj : j < NS) (hd : kd j = 10) : (VW K ad I G A L)[j]? = some (ad j, .inl (K 2, ln j, .inl (A j))) := (VW_at hj).trans (by rw [cell_a hd (by decide) (by decide)]; rfl)
theorem VW11 (hj : j < NS) (hd : kd j = 11) : (VW K ad I G A L)[j]? = some (ad j, .inl (K 3, ln j, .inl (A j))) := (VW_at hj).trans (by rw [cell_a hd (by decide) (by decide)]; rfl)
theorem VW12 (hj : j < NS) (hd : kd j = 12) : (VW K ad I G A L)[j]? = some (ad j, .inl (K 4, ln j, .inr (.inl (L j)))) := (VW_at hj).trans (by rw [cell_l hd]; rfl)
theorem VWq {q : Nat} (hj : j < NS) (hd : kd j = q) (hq : 13 ≤ q) : (VW K ad I G A L)[j]? = some (ad j, .inl (ck K q, ln j, .inr (.inr (.inr (.inr (fun i => if i < ln j then some (ad (rf j i)) else none)))))) := (VW_at hj).trans (by rw [cell_q hd hq])
theorem VWo {ci : Nat} (hj : j < NS) (hd : kd j = ci) (hci : ci < 8) : (VW K ad I G A L)[j]? = some (ad j, .inr (ci, fds ad I G ci j)) := (VW_at hj).trans (by rw [cell_o hd hci])
theorem VWs8 {k : Nat} {v : Int32} (hd : kd j = 8) : (VW K ad I G A L).set j (ad j, .inl (K 0, ln j, .inl (upd (A j) k v))) = VW K ad I G (up2 A j k v) L := VW_A hd (by decide) (by decide)
theorem VWs9 {k : Nat} {v : Int32} (hd : kd j = 9) : (VW K ad I G A L).set j (ad j, .inl (K 1, ln j, .inl (upd (A j) k v))) = VW K ad I G (up2 A j k v) L := VW_A hd (by decide) (by decide)
theorem VWs10 {k : Nat} {v : Int32} (hd : kd j = 10) : (VW K ad I G A L).set j (ad j, .inl (K 2, ln j, .inl (upd (A j) k v))) = VW K ad I G (up2 A j k v) L := VW_A hd (by decide) (by decide)
theorem VWs11 {k : Nat} {v : Int32} (hd : kd j = 11) : (VW K ad I G A L).set j (ad j, .inl (K 3, ln j, .inl (upd (A j) k v))) = VW K ad I G (up2 A j k v) L := VW_A hd (by decide) (by decide)
theorem VWs12 {k : Nat} {v : Int64} (hd : kd j = 12) : (VW K ad I G A L).set j (ad j, .inl (K 4, ln j, .inr (.inl (vp_updL (L j) k v)))) = VW K ad I G A (up2 L j k v) := VW_L hd
end VMQ
section VMR
variable {p : Program} {l : Launch} {e : Env} {Rm : Room} {s : State} {m : MethodId} {args : Array Value} {below : List Frame} {meth : Method} {c : Code} {H : Heap} {locs : List Loc} {cells slots : Nat} {Q : State → Prop}
variable {cc : ByteArray} {pc : Nat} {ls : Array Slot} {rest : List Value} {D : va_G} {B : Nat → Prop} {H0 : Heap} {K : Nat → ClassId} {ad : Nat → Nat} {I : Nat → Nat → Int32} {G : Nat → Nat → Nat} {A : Nat → Nat → Int32} {L : Nat → Nat → Int64}
/-- getfield: a number -/
theorem vgI (hx : p.tables.exec = Jvm.exec) (hb : c.code = cc) {own ref C : String} {T : u_T} {N ci index : Nat} {Ts : List Cond} (hts : ∀ w ∈ Ts, w.before args s = true) (hin : ∀ w ∈ u_ws C T N, w ∈ Ts) (hown : s.vm.findClass own = some m.cls) (hK : va_K D vwCl (tyA K) s) (hP : va_P D vwCl (VW K ad I G A L) H) (j : Nat) (hj : j < NS) (hd : kd j = ci) (hc : vwCl[ci]? = some (C, T, N)) (k : Nat) (hk : k < N) (hci : ci < 8) (hkn : k < nf ci) (hr : rk ci k = 0)
    (hlink : (Cond.fieldLink own index ref (T k).2.1 (T k).2.2.1).before args s = true) (hsame : ∀ x, s.fieldFound? (T k).1 (T k).2.1 (T k).2.2.1 = some x → s.fieldFound? ref (T k).2.1 (T k).2.2.1 = some x) (hdg : decode cc pc = .ok (.getfield index, 3)) (kk : W p l e Rm s m args below meth c H locs cells slots Q (F0 m (pc + 3) ls (.int (I j k) :: rest))) : W p l e Rm s m args below meth c H locs cells slots Q (F0 m pc ls (.ref (ad j) :: rest)) :=
  va_get (ci := ci) hx hb hts hin hown hK hP j (VWo hj hd hci) hc k hk hlink hsame ((fds_at hkn).trans (by simp only [fd, hr, if_true])) hdg kk
/-- getfield: a slot at a distance -/
theorem vgS (hx : p.tables.exec = Jvm.exec) (hb : c.code = cc) {own ref C : String} {T : u_T} {N ci index : Nat} {Ts : List Cond} (hts : ∀ w ∈ Ts, w.before args s = true) (hin : ∀ w ∈ u_ws C T N, w ∈ Ts) (hown : s.vm.findClass own = some m.cls) (hK : va_K D vwCl (tyA K) s) (hP : va_P D vwCl (VW K ad I G A L) H) (j : Nat) (hj : j < NS) (hd : kd j = ci) (hc : vwCl[ci]? = some (C, T, N)) (k : Nat) (hk : k < N) (hci : ci < 8) (hkn : k < nf ci) (hr : rk ci k = 1) (q : Nat) (hq : j + of ci k = q)
    (hlink : (Cond.fieldLink own index ref (T k).2.1 (T k).2.2.1).before args s = true) (hsame : ∀ x, s.fieldFound? (T k).1 (T k).2.1 (T k).2.2.1 = some x → s.fieldFound? ref (T k).2.1 (T k).2.2.1 = some x) (hdg : decode cc pc = .ok (.getfield index, 3)) (kk : W p l e Rm s m args below meth c H locs cells slots Q (F0 m (pc + 3) ls (.ref (ad q) :: rest))) : W p l e Rm s m args below meth c H locs cells slots Q (F0 m pc ls (.ref (ad j) :: rest)) :=
  va_get (ci := ci) hx hb hts hin hown hK hP j (VWo hj hd hci) hc k hk hlink hsame ((fds_at hkn).trans (by subst hq; simp [fd, hr])) hdg kk
/-- getfield: a slot by its number -/
theorem vgC (hx : p.tables.exec = Jvm.exec) (hb : c.code = cc) {own ref C : String} {T : u_T} {N ci index : Nat} {Ts : List Cond} (hts : ∀ w ∈ Ts, w.before args s = true) (hin : ∀ w ∈ u_ws C T N, w ∈ Ts) (hown : s.vm.findClass own = some m.cls) (hK : va_K D vwCl (tyA K) s) (hP : va_P D vwCl (VW K ad I G A L) H) (j : Nat) (hj : j < NS) (hd : kd j = ci) (hc : vwCl[ci]? = some (C, T, N)) (k : Nat) (hk : k < N) (hci : ci < 8) (hkn : k < nf ci) (hr : rk ci k = 2) (q : Nat) (hq : of ci k = q)
    (hlink : (Cond.fieldLink own index ref (T k).2.1 (T k).2.2.1).before args s = true) (hsame : ∀ x, s.fieldFound? (T k).1 (T k).2.1 (T k).2.2.1 = some x → s.fieldFound? ref (T k).2.1 (T k).2.2.1 = some x) (hdg : decode cc pc = .ok (.getfield index, 3)) (kk : W p l e Rm s m args below meth c H locs cells slots Q (F0 m (pc + 3) ls (.ref (ad q) :: rest))) : W p l e Rm s m args below meth c H locs cells slots Q (F0 m pc ls (.ref (ad j) :: rest)) :=
  va_get (ci := ci) hx hb hts hin hown hK hP j (VWo hj hd hci) hc k hk hlink hsame ((fds_at hkn).trans (by subst hq; simp [fd, hr])) hdg kk
/-- getfield: a slot that changes -/
theorem vgG (hx : p.tables.exec = Jvm.exec) (hb : c.code = cc) {own ref C : String} {T : u_T} {N ci index : Nat} {Ts : List Cond} (hts : ∀ w ∈ Ts, w.before args s = true) (hin : ∀ w ∈ u_ws C T N, w ∈ Ts) (hown : s.vm.findClass own = some m.cls) (hK : va_K D vwCl (tyA K) s) (hP : va_P D vwCl (VW K ad I G A L) H) (j : Nat) (hj : j < NS) (hd : kd j = ci) (hc : vwCl[ci]? = some (C, T, N)) (k : Nat) (hk : k < N) (hci : ci < 8) (hkn : k < nf ci) (hr : rk ci k = 3)
    (hlink : (Cond.fieldLink own index ref (T k).2.1 (T k).2.2.1).before args s = true) (hsame : ∀ x, s.fieldFound? (T k).1 (T k).2.1 (T k).2.2.1 = some x → s.fieldFound? ref (T k).2.1 (T k).2.2.1 = some x) (hdg : decode cc pc = .ok (.getfield index, 3)) (kk : W p l e Rm s m args below meth c H locs cells slots Q (F0 m (pc + 3) ls (.ref (ad (G j k)) :: rest))) : W p l e Rm s m args below meth c H locs cells slots Q (F0 m pc ls (.ref (ad j) :: rest)) :=
  va_get (ci := ci) hx hb hts hin hown hK hP j (VWo hj hd hci) hc k hk hlink hsame ((fds_at hkn).trans (by simp [fd, hr])) hdg kk
/-- putfield: a number -/
theorem vpI (hx : p.tables.exec = Jvm.exec) (hb : c.code = cc) {own ref C : String} {T : u_T} {N ci index : Nat} {Ts : List Cond} (hts : ∀ w ∈ Ts, w.before args s = true) (hin : ∀ w ∈ u_ws C T N, w ∈ Ts) (ty0 : Nat → FieldType) (hty : ∀ k, k < N → parseFieldDescriptor (T k).2.2.1 = some (ty0 k)) (hnm : ∀ a, a < N → ∀ b, b < N → a ≠ b → (T a).2.1 ≠ (T b).2.1) (hown : s.vm.findClass own = some m.cls) (hK : va_K D vwCl (tyA K) s) (hP : va_P D vwCl (VW K ad I G A L) H) (hap : apart ad B) (hS : va_S B H0 H locs) (j : Nat) (hj : j < NS) (hd : kd j = ci) (hc : vwCl[ci]? = some (C, T, N)) (k : Nat) (hk : k < N) (hci : ci < 8) (hkn : k < nf ci) (hr : rk ci k = 0)
    (hlink : (Cond.fieldLink own index ref (T k).2.1 (T k).2.2.1).before args s = true) (hsame : ∀ x, s.fieldFound? (T k).1 (T k).2.1 (T k).2.2.1 = some x → s.fieldFound? ref (T k).2.1 (T k).2.2.1 = some x) (hfin : (T k).2.2.2 = false) {ty : FieldType} {v : Int32} (hdd : parseFieldDescriptor (T k).2.2.1 = some ty) (hn : narrow ty (.int v) = .int v) (hfit : fits ty (.int v) = true) (hdg : decode cc pc = .ok (.putfield index, 3))
    (kk : ∀ (H1 : Heap) (locs1 : List Loc), va_P D vwCl (VW K ad (up2 I j k v) G A L) H1 → va_S B H0 H1 locs1 → W p l e Rm s m args below meth c H1 locs1 cells slots Q (F0 m (pc + 3) ls rest)) : W p l e Rm s m args below meth c H locs cells slots Q (F0 m pc ls (.int v :: .ref (ad j) :: rest)) := by
  refine va_put (ci := ci) (fs := fds ad I G ci j) hx hb hts hin ty0 hty hnm hown hK hP (VW_D hap) hS j (VWo hj hd hci) hc k hk hlink hsame hfin hdd hn hfit (by simpa [fds] using hkn) hdg (fun H1 locs1 hP1 _ hS1 => ?_)
  rw [VW_I hd hci hr] at hP1
  exact kk H1 locs1 hP1 hS1
/-- putfield: a slot that changes -/
theorem vpG (hx : p.tables.exec = Jvm.exec) (hb : c.code = cc) {own ref C : String} {T : u_T} {N ci index : Nat} {Ts : List Cond} (hts : ∀ w ∈ Ts, w.before args s = true) (hin : ∀ w ∈ u_ws C T N, w ∈ Ts) (ty0 : Nat → FieldType) (hty : ∀ k, k < N → parseFieldDescriptor (T k).2.2.1 = some (ty0 k)) (hnm : ∀ a, a < N → ∀ b, b < N → a ≠ b → (T a).2.1 ≠ (T b).2.1) (hown : s.vm.findClass own = some m.cls) (hK : va_K D vwCl (tyA K) s) (hP : va_P D vwCl (VW K ad I G A L) H) (hap : apart ad B) (hS : va_S B H0 H locs) (j : Nat) (hj : j < NS) (hd : kd j = ci) (hc : vwCl[ci]? = some (C, T, N)) (k : Nat) (hk : k < N) (hci : ci < 8) (hkn : k < nf ci) (hr : rk ci k = 3)
    (hlink : (Cond.fieldLink own index ref (T k).2.1 (T k).2.2.1).before args s = true) (hsame : ∀ x, s.fieldFound? (T k).1 (T k).2.1 (T k).2.2.1 = some x → s.fieldFound? ref (T k).2.1 (T k).2.2.1 = some x) (hfin : (T k).2.2.2 = false) {ty : FieldType} {q : Nat} (hdd : parseFieldDescriptor (T k).2.2.1 = some ty) (hn : narrow ty (.ref (ad q)) = .ref (ad q)) (hfit : fits ty (.ref (ad q)) = true) (hdg : decode cc pc = .ok (.putfield index, 3))
    (kk : ∀ (H1 : Heap) (locs1 : List Loc), va_P D vwCl (VW K ad I (up2 G j k q) A L) H1 → va_S B H0 H1 locs1 → W p l e Rm s m args below meth c H1 locs1 cells slots Q (F0 m (pc + 3) ls rest)) : W p l e Rm s m args below meth c H locs cells slots Q (F0 m pc ls (.ref (ad q) :: .ref (ad j) :: rest)) := by
  refine va_put (ci := ci) (fs := fds ad I G ci j) hx hb hts hin ty0 hty hnm hown hK hP (VW_D hap) hS j (VWo hj hd hci) hc k hk hlink hsame hfin hdd hn hfit (by simpa [fds] using hkn) hdg (fun H1 locs1 hP1 _ hS1 => ?_)
  rw [VW_R hd hci hr] at hP1
  exact kk H1 locs1 hP1 hS1
theorem vlen (hx : p.tables.exec = Jvm.exec) (hb : c.code = cc) (hK : va_K D vwCl (tyA K) s) (hP : va_P D vwCl (VW K ad I G A L) H) (j : Nat) (hj : j < NS) (hd : kd j = 8) (hdg : decode cc pc = .ok (.arraylength, 1)) (kk : W p l e Rm s m args below meth c H locs cells slots Q (F0 m (pc + 1) ls (.int (nI (ln j)) :: rest))) : W p l e Rm s m args below meth c H locs cells slots Q (F0 m pc ls (.ref (ad j) :: rest)) :=
  va_alen hx hb hK hP j 0 (VW8 hj hd) rfl rfl hdg kk
theorem vlenL (hx : p.tables.exec = Jvm.exec) (hb : c.code = cc) (hK : va_K D vwCl (tyA K) s) (hP : va_P D vwCl (VW K ad I G A L) H) (j : Nat) (hj : j < NS) (hd : kd j = 12) (hdg : decode cc pc = .ok (.arraylength, 1)) (kk : W p l e Rm s m args below meth c H locs cells slots Q (F0 m (pc + 1) ls (.int (nI (ln j)) :: rest))) : W p l e Rm s m args below meth c H locs cells slots Q (F0 m pc ls (.ref (ad j) :: rest)) :=
  va_alen hx hb hK hP j 4 (VW12 hj hd) rfl rfl hdg kk
theorem viald (hx : p.tables.exec = Jvm.exec) (hb : c.code = cc) (hK : va_K D vwCl (tyA K) s) (hP : va_P D vwCl (VW K ad I G A L) H) (j : Nat) (hj : j < NS) (hd : kd j = 8) {i : Int32} (n : Nat) (hi : i = nI n) (hn : n < ln j) (hln : ln j < 2 ^ 31) (hdg : decode cc pc = .ok (.iaload, 1)) (kk : W p l e Rm s m args below meth c H locs cells slots Q (F0 m (pc + 1) ls (.int (A j n) :: rest))) : W p l e Rm s m args below meth c H locs cells slots Q (F0 m pc ls (.int i :: .ref (ad j) :: rest)) := by
  subst hi
  refine va_iald hx hb hK hP j 0 (VW8 hj hd) rfl (vp_in_nI hn hln) hdg ?_
  rw [nI_clamp (by omega)]
  exact kk
theorem vbald (hx : p.tables.exec = Jvm.exec) (hb : c.code = cc) (hK : va_K D vwCl (tyA K) s) (hP : va_P D vwCl (VW K ad I G A L) H) (j : Nat) (hj : j < NS) (hd : kd j = 9) {i : Int32} (n : Nat) (hi : i = nI n) (hn : n < ln j) (hln : ln j < 2 ^ 31) (hdg : decode cc pc = .ok (.baload, 1)) (kk : W p l e Rm s m args below meth c H locs cells slots Q (F0 m (pc + 1) ls (.int (A j n) :: rest))) : W p l e Rm s m args below meth c H locs cells slots Q (F0 m pc ls (.int i :: .ref (ad j) :: rest)) := by
  subst hi
  refine va_bald hx hb hK hP j 1 (VW9 hj hd) rfl (vp_in_nI hn hln) hdg ?_
  rw [nI_clamp (by omega)]
  exact kk
theorem vsald (hx : p.tables.exec = Jvm.exec) (hb : c.code = cc) (hK : va_K D vwCl (tyA K) s) (hP : va_P D vwCl (VW K ad I G A L) H) (j : Nat) (hj : j < NS) (hd : kd j = 10) {i : Int32} (n : Nat) (hi : i = nI n) (hn : n < ln j) (hln : ln j < 2 ^ 31) (hdg : decode cc pc = .ok (.saload, 1)) (kk : W p l e Rm s m args below meth c H locs cells slots Q (F0 m (pc + 1) ls (.int (A j n) :: rest))) : W p l e Rm s m args below meth c H locs cells slots Q (F0 m pc ls (.int i :: .ref (ad j) :: rest)) := by
  subst hi
  refine va_sald hx hb hK hP j 2 (VW10 hj hd) rfl (vp_in_nI hn hln) hdg ?_
  rw [nI_clamp (by omega)]
  exact kk
theorem vzald (hx : p.tables.exec = Jvm.exec) (hb : c.code = cc) (hK : va_K D vwCl (tyA K) s) (hP : va_P D vwCl (VW K ad I G A L) H) (j : Nat) (hj : j < NS) (hd : kd j = 11) {i : Int32} (n : Nat) (hi : i = nI n) (hn : n < ln j) (hln : ln j < 2 ^ 31) (hdg : decode cc pc = .ok (.baload, 1)) (kk : W p l e Rm s m args below meth c H locs cells slots Q (F0 m (pc + 1) ls (.int (A j n) :: rest))) : W p l e Rm s m args below meth c H locs cells slots Q (F0 m pc ls (.int i :: .ref (ad j) :: rest)) := by
  subst hi
  refine va_zald hx hb hK hP j 3 (VW11 hj hd) rfl (vp_in_nI hn hln) hdg ?_
  rw [nI_clamp (by omega)]
  exact kk
theorem vlald (hx : p.tables.exec = Jvm.exec) (hb : c.code = cc) (hK : va_K D vwCl (tyA K) s) (hP : va_P D vwCl (VW K ad I G A L) H) (j : Nat) (hj : j < NS) (hd : kd j = 12) {i : Int32} (n : Nat) (hi : i = nI n) (hn : n < ln j) (hln : ln j < 2 ^ 31) (hdg : decode cc pc = .ok (.laload, 1)) (kk : W p l e Rm s m args below meth c H locs cells slots Q (F0 m (pc + 1) ls (.long (L j n) :: rest))) : W p l e Rm s m args below meth c H locs cells slots Q (F0 m pc ls (.int i :: .ref (ad j) :: rest)) := by
  subst hi
  refine va_lald hx hb hK hP j 4 (VW12 hj hd) rfl (vp_in_nI hn hln) hdg ?_
  rw [nI_clamp (by omega)]
  exact kk
theorem viast (hx : p.tables.exec = Jvm.exec) (hb : c.code = cc) (hK : va_K D vwCl (tyA K) s) (hP : va_P D vwCl (VW K ad I G A L) H) (hap : apart ad B) (hS : va_S B H0 H locs) (j : Nat) (hj : j < NS) (hd : kd j = 8) {i x : Int32} (n : Nat) (hi : i = nI n) (hn : n < ln j) (hln : ln j < 2 ^ 31) (hdg : decode cc pc = .ok (.iastore, 1))
    (kk : ∀ (H1 : Heap) (locs1 : List Loc), va_P D vwCl (VW K ad I G (up2 A j n x) L) H1 → va_S B H0 H1 locs1 → W p l e Rm s m args below meth c H1 locs1 cells slots Q (F0 m (pc + 1) ls rest)) : W p l e Rm s m args below meth c H locs cells slots Q (F0 m pc ls (.int x :: .int i :: .ref (ad j) :: rest)) := by
  subst hi
  refine va_iast hx hb hK hP (VW_D hap) hS j 0 (VW8 hj hd) rfl (vp_in_nI hn hln) hdg (fun H1 locs1 hP1 _ hS1 => ?_)
  rw [nI_clamp (by omega), VWs8 hd] at hP1
  exact kk H1 locs1 hP1 hS1
theorem vbast (hx : p.tables.exec = Jvm.exec) (hb : c.code = cc) (hK : va_K D vwCl (tyA K) s) (hP : va_P D vwCl (VW K ad I G A L) H) (hap : apart ad B) (hS : va_S B H0 H locs) (j : Nat) (hj : j < NS) (hd : kd j = 9) {i x : Int32} (n : Nat) (hi : i = nI n) (hn : n < ln j) (hln : ln j < 2 ^ 31) (hdg : decode cc pc = .ok (.bastore, 1))
    (kk : ∀ (H1 : Heap) (locs1 : List Loc), va_P D vwCl (VW K ad I G (up2 A j n (vp_nar .byte x)) L) H1 → va_S B H0 H1 locs1 → W p l e Rm s m args below meth c H1 locs1 cells slots Q (F0 m (pc + 1) ls rest)) : W p l e Rm s m args below meth c H locs cells slots Q (F0 m pc ls (.int x :: .int i :: .ref (ad j) :: rest)) := by
  subst hi
  refine va_bast hx hb hK hP (VW_D hap) hS j 1 (VW9 hj hd) rfl (vp_in_nI hn hln) hdg (fun H1 locs1 hP1 _ hS1 => ?_)
  rw [nI_clamp (by omega), VWs9 hd] at hP1
  exact kk H1 locs1 hP1 hS1
theorem vsast (hx : p.tables.exec = Jvm.exec) (hb : c.code = cc) (hK : va_K D vwCl (tyA K) s) (hP : va_P D vwCl (VW K ad I G A L) H) (hap : apart ad B) (hS : va_S B H0 H locs) (j : Nat) (hj : j < NS) (hd : kd j = 10) {i x : Int32} (n : Nat) (hi : i = nI n) (hn : n < ln j) (hln : ln j < 2 ^ 31) (hdg : decode cc pc = .ok (.sastore, 1))
    (kk : ∀ (H1 : Heap) (locs1 : List Loc), va_P D vwCl (VW K ad I G (up2 A j n (vp_nar .short x)) L) H1 → va_S B H0 H1 locs1 → W p l e Rm s m args below meth c H1 locs1 cells slots Q (F0 m (pc + 1) ls rest)) : W p l e Rm s m args below meth c H locs cells slots Q (F0 m pc ls (.int x :: .int i :: .ref (ad j) :: rest)) := by
  subst hi
  refine va_sast hx hb hK hP (VW_D hap) hS j 2 (VW10 hj hd) rfl (vp_in_nI hn hln) hdg (fun H1 locs1 hP1 _ hS1 => ?_)
  rw [nI_clamp (by omega), VWs10 hd] at hP1
  exact kk H1 locs1 hP1 hS1
theorem vzast (hx : p.tables.exec = Jvm.exec) (hb : c.code = cc) (hK : va_K D vwCl (tyA K) s) (hP : va_P D vwCl (VW K ad I G A L) H) (hap : apart ad B) (hS : va_S B H0 H locs) (j : Nat) (hj : j < NS) (hd : kd j = 11) {i x : Int32} (n : Nat) (hi : i = nI n) (hn : n < ln j) (hln : ln j < 2 ^ 31) (hdg : decode cc pc = .ok (.bastore, 1))
    (kk : ∀ (H1 : Heap) (locs1 : List Loc), va_P D vwCl (VW K ad I G (up2 A j n (vp_nar .boolean x)) L) H1 → va_S B H0 H1 locs1 → W p l e Rm s m args below meth c H1 locs1 cells slots Q (F0 m (pc + 1) ls rest)) : W p l e Rm s m args below meth c H locs cells slots Q (F0 m pc ls (.int x :: .int i :: .ref (ad j) :: rest)) := by
  subst hi
  refine va_zast hx hb hK hP (VW_D hap) hS j 3 (VW11 hj hd) rfl (vp_in_nI hn hln) hdg (fun H1 locs1 hP1 _ hS1 => ?_)
  rw [nI_clamp (by omega), VWs11 hd] at hP1
  exact kk H1 locs1 hP1 hS1
theorem vlast (hx : p.tables.exec = Jvm.exec) (hb : c.code = cc) (hK : va_K D vwCl (tyA K) s) (hP : va_P D vwCl (VW K ad I G A L) H) (hap : apart ad B) (hS : va_S B H0 H locs) (j : Nat) (hj : j < NS) (hd : kd j = 12) {i : Int32} {x : Int64} (n : Nat) (hi : i = nI n) (hn : n < ln j) (hln : ln j < 2 ^ 31) (hdg : decode cc pc = .ok (.lastore, 1))
    (kk : ∀ (H1 : Heap) (locs1 : List Loc), va_P D vwCl (VW K ad I G A (up2 L j n x)) H1 → va_S B H0 H1 locs1 → W p l e Rm s m args below meth c H1 locs1 cells slots Q (F0 m (pc + 1) ls rest)) : W p l e Rm s m args below meth c H locs cells slots Q (F0 m pc ls (.long x :: .int i :: .ref (ad j) :: rest)) := by
  subst hi
  refine va_last hx hb hK hP (VW_D hap) hS j 4 (VW12 hj hd) rfl (vp_in_nI hn hln) hdg (fun H1 locs1 hP1 _ hS1 => ?_)
  rw [nI_clamp (by omega), VWs12 hd] at hP1
  exact kk H1 locs1 hP1 hS1
/-- a slot out of Problem[], Rule[] -/
theorem vaald (hx : p.tables.exec = Jvm.exec) (hb : c.code = cc) (hK : va_K D vwCl (tyA K) s) (hP : va_P D vwCl (VW K ad I G A L) H) (j : Nat) (hj : j < NS) (t0 q : Nat) {Cn : String} (hd : kd j = q) (hq : 13 ≤ q) (ht : (tyA K)[t0]? = some (ck K q, .object Cn)) {i : Int32} (n : Nat) (hi : i = nI n) (hn : n < ln j) (hln : ln j < 2 ^ 31) (r : Nat) (hr : rf j n = r) (hdg : decode cc pc = .ok (.aaload, 1)) (kk : W p l e Rm s m args below meth c H locs cells slots Q (F0 m (pc + 1) ls (.ref (ad r) :: rest))) : W p l e Rm s m args below meth c H locs cells slots Q (F0 m pc ls (.int i :: .ref (ad j) :: rest)) := by
  subst hi
  refine va_aldq hx hb hK hP j t0 (VWq hj hd hq) ht (vp_in_nI hn hln) hdg ?_
  rw [nI_clamp (by omega), if_pos hn, hr]
  exact kk
end VMR
section VMX
variable {p : Program} {l : Launch} {e : Env} {Rm : Room} {s : State} {m : MethodId} {args : Array Value} {below : List Frame} {meth : Method} {c : Code} {H : Heap} {locs : List Loc} {cells slots : Nat} {Q : State → Prop}
variable {cc : ByteArray} {pc : Nat} {ls : Array Slot} {rest : List Value} {D : va_G} {B : Nat → Prop} {H0 : Heap} {K : Nat → ClassId} {ad : Nat → Nat} {I : Nat → Nat → Int32} {G : Nat → Nat → Nat} {A : Nat → Nat → Int32} {L : Nat → Nat → Int64}
theorem xiald (hx : p.tables.exec = Jvm.exec) (hb : c.code = cc) (hK : va_K D vwCl (tyA K) s) (hP : va_P D vwCl (VW K ad I G A L) H) (j : Nat) (hj : j < NS) (hd : kd j = 8) {i : Int32} (hin : vp_in i (ln j)) (hdg : decode cc pc = .ok (.iaload, 1)) (kk : W p l e Rm s m args below meth c H locs cells slots Q (F0 m (pc + 1) ls (.int (A j i.toNatClampNeg) :: rest))) : W p l e Rm s m args below meth c H locs cells slots Q (F0 m pc ls (.int i :: .ref (ad j) :: rest)) :=
  va_iald hx hb hK hP j 0 (VW8 hj hd) rfl hin hdg kk
theorem xbald (hx : p.tables.exec = Jvm.exec) (hb : c.code = cc) (hK : va_K D vwCl (tyA K) s) (hP : va_P D vwCl (VW K ad I G A L) H) (j : Nat) (hj : j < NS) (hd : kd j = 9) {i : Int32} (hin : vp_in i (ln j)) (hdg : decode cc pc = .ok (.baload, 1)) (kk : W p l e Rm s m args below meth c H locs cells slots Q (F0 m (pc + 1) ls (.int (A j i.toNatClampNeg) :: rest))) : W p l e Rm s m args below meth c H locs cells slots Q (F0 m pc ls (.int i :: .ref (ad j) :: rest)) :=
  va_bald hx hb hK hP j 1 (VW9 hj hd) rfl hin hdg kk
theorem xsald (hx : p.tables.exec = Jvm.exec) (hb : c.code = cc) (hK : va_K D vwCl (tyA K) s) (hP : va_P D vwCl (VW K ad I G A L) H) (j : Nat) (hj : j < NS) (hd : kd j = 10) {i : Int32} (hin : vp_in i (ln j)) (hdg : decode cc pc = .ok (.saload, 1)) (kk : W p l e Rm s m args below meth c H locs cells slots Q (F0 m (pc + 1) ls (.int (A j i.toNatClampNeg) :: rest))) : W p l e Rm s m args below meth c H locs cells slots Q (F0 m pc ls (.int i :: .ref (ad j) :: rest)) :=
  va_sald hx hb hK hP j 2 (VW10 hj hd) rfl hin hdg kk
theorem xzald (hx : p.tables.exec = Jvm.exec) (hb : c.code = cc) (hK : va_K D vwCl (tyA K) s) (hP : va_P D vwCl (VW K ad I G A L) H) (j : Nat) (hj : j < NS) (hd : kd j = 11) {i : Int32} (hin : vp_in i (ln j)) (hdg : decode cc pc = .ok (.baload, 1)) (kk : W p l e Rm s m args below meth c H locs cells slots Q (F0 m (pc + 1) ls (.int (A j i.toNatClampNeg) :: rest))) : W p l e Rm s m args below meth c H locs cells slots Q (F0 m pc ls (.int i :: .ref (ad j) :: rest)) :=
  va_zald hx hb hK hP j 3 (VW11 hj hd) rfl hin hdg kk
theorem xlald (hx : p.tables.exec = Jvm.exec) (hb : c.code = cc) (hK : va_K D vwCl (tyA K) s) (hP : va_P D vwCl (VW K ad I G A L) H) (j : Nat) (hj : j < NS) (hd : kd j = 12) {i : Int32} (hin : vp_in i (ln j)) (hdg : decode cc pc = .ok (.laload, 1)) (kk : W p l e Rm s m args below meth c H locs cells slots Q (F0 m (pc + 1) ls (.long (L j i.toNatClampNeg) :: rest))) : W p l e Rm s m args below meth c H locs cells slots Q (F0 m pc ls (.int i :: .ref (ad j) :: rest)) :=
  va_lald hx hb hK hP j 4 (VW12 hj hd) rfl hin hdg kk
theorem xiast (hx : p.tables.exec = Jvm.exec) (hb : c.code = cc) (hK : va_K D vwCl (tyA K) s) (hP : va_P D vwCl (VW K ad I G A L) H) (hap : apart ad B) (hS : va_S B H0 H locs) (j : Nat) (hj : j < NS) (hd : kd j = 8) {i : Int32} {x : Int32} (hin : vp_in i (ln j)) (hdg : decode cc pc = .ok (.iastore, 1)) (kk : ∀ (H1 : Heap) (locs1 : List Loc), va_P D vwCl (VW K ad I G (up2 A j i.toNatClampNeg x) L) H1 → va_S B H0 H1 locs1 → W p l e Rm s m args below meth c H1 locs1 cells slots Q (F0 m (pc + 1) ls rest)) : W p l e Rm s m args below meth c H locs cells slots Q (F0 m pc ls (.int x :: .int i :: .ref (ad j) :: rest)) := by
  refine va_iast hx hb hK hP (VW_D hap) hS j 0 (VW8 hj hd) rfl hin hdg (fun H1 locs1 hP1 _ hS1 => ?_)
  rw [VWs8 hd] at hP1
  exact kk H1 locs1 hP1 hS1
theorem xbast (hx : p.tables.exec = Jvm.exec) (hb : c.code = cc) (hK : va_K D vwCl (tyA K) s) (hP : va_P D vwCl (VW K ad I G A L) H) (hap : apart ad B) (hS : va_S B H0 H locs) (j : Nat) (hj : j < NS) (hd : kd j = 9) {i : Int32} {x : Int32} (hin : vp_in i (ln j)) (hdg : decode cc pc = .ok (.bastore, 1)) (kk : ∀ (H1 : Heap) (locs1 : List Loc), va_P D vwCl (VW K ad I G (up2 A j i.toNatClampNeg (vp_nar .byte x)) L) H1 → va_S B H0 H1 locs1 → W p l e Rm s m args below meth c H1 locs1 cells slots Q (F0 m (pc + 1) ls rest)) : W p l e Rm s m args below meth c H locs cells slots Q (F0 m pc ls (.int x :: .int i :: .ref (ad j) :: rest)) := by
  refine va_bast hx hb hK hP (VW_D hap) hS j 1 (VW9 hj hd) rfl hin hdg (fun H1 locs1 hP1 _ hS1 => ?_)
  rw [VWs9 hd] at hP1
  exact kk H1 locs1 hP1 hS1
theorem xsast (hx : p.tables.exec = Jvm.exec) (hb : c.code = cc) (hK : va_K D vwCl (tyA K) s) (hP : va_P D vwCl (VW K ad I G A L) H) (hap : apart ad B) (hS : va_S B H0 H locs) (j : Nat) (hj : j < NS) (hd : kd j = 10) {i : Int32} {x : Int32} (hin : vp_in i (ln j)) (hdg : decode cc pc = .ok (.sastore, 1)) (kk : ∀ (H1 : Heap) (locs1 : List Loc), va_P D vwCl (VW K ad I G (up2 A j i.toNatClampNeg (vp_nar .short x)) L) H1 → va_S B H0 H1 locs1 → W p l e Rm s m args below meth c H1 locs1 cells slots Q (F0 m (pc + 1) ls rest)) : W p l e Rm s m args below meth c H locs cells slots Q (F0 m pc ls (.int x :: .int i :: .ref (ad j) :: rest)) := by
  refine va_sast hx hb hK hP (VW_D hap) hS j 2 (VW10 hj hd) rfl hin hdg (fun H1 locs1 hP1 _ hS1 => ?_)
  rw [VWs10 hd] at hP1
  exact kk H1 locs1 hP1 hS1
theorem xzast (hx : p.tables.exec = Jvm.exec) (hb : c.code = cc) (hK : va_K D vwCl (tyA K) s) (hP : va_P D vwCl (VW K ad I G A L) H) (hap : apart ad B) (hS : va_S B H0 H locs) (j : Nat) (hj : j < NS) (hd : kd j = 11) {i : Int32} {x : Int32} (hin : vp_in i (ln j)) (hdg : decode cc pc = .ok (.bastore, 1)) (kk : ∀ (H1 : Heap) (locs1 : List Loc), va_P D vwCl (VW K ad I G (up2 A j i.toNatClampNeg (vp_nar .boolean x)) L) H1 → va_S B H0 H1 locs1 → W p l e Rm s m args below meth c H1 locs1 cells slots Q (F0 m (pc + 1) ls rest)) : W p l e Rm s m args below meth c H locs cells slots Q (F0 m pc ls (.int x :: .int i :: .ref (ad j) :: rest)) := by
  refine va_zast hx hb hK hP (VW_D hap) hS j 3 (VW11 hj hd) rfl hin hdg (fun H1 locs1 hP1 _ hS1 => ?_)
  rw [VWs11 hd] at hP1
  exact kk H1 locs1 hP1 hS1
theorem xlast (hx : p.tables.exec = Jvm.exec) (hb : c.code = cc) (hK : va_K D vwCl (tyA K) s) (hP : va_P D vwCl (VW K ad I G A L) H) (hap : apart ad B) (hS : va_S B H0 H locs) (j : Nat) (hj : j < NS) (hd : kd j = 12) {i : Int32} {x : Int64} (hin : vp_in i (ln j)) (hdg : decode cc pc = .ok (.lastore, 1)) (kk : ∀ (H1 : Heap) (locs1 : List Loc), va_P D vwCl (VW K ad I G A (up2 L j i.toNatClampNeg x)) H1 → va_S B H0 H1 locs1 → W p l e Rm s m args below meth c H1 locs1 cells slots Q (F0 m (pc + 1) ls rest)) : W p l e Rm s m args below meth c H locs cells slots Q (F0 m pc ls (.long x :: .int i :: .ref (ad j) :: rest)) := by
  refine va_last hx hb hK hP (VW_D hap) hS j 4 (VW12 hj hd) rfl hin hdg (fun H1 locs1 hP1 _ hS1 => ?_)
  rw [VWs12 hd] at hP1
  exact kk H1 locs1 hP1 hS1
theorem xaald (hx : p.tables.exec = Jvm.exec) (hb : c.code = cc) (hK : va_K D vwCl (tyA K) s) (hP : va_P D vwCl (VW K ad I G A L) H) (j : Nat) (hj : j < NS) (t0 q : Nat) {Cn : String} (hd : kd j = q) (hq : 13 ≤ q) (ht : (tyA K)[t0]? = some (ck K q, .object Cn)) {i : Int32} (hin : vp_in i (ln j)) (r : Nat) (hr : rf j i.toNatClampNeg = r) (hdg : decode cc pc = .ok (.aaload, 1)) (kk : W p l e Rm s m args below meth c H locs cells slots Q (F0 m (pc + 1) ls (.ref (ad r) :: rest))) : W p l e Rm s m args below meth c H locs cells slots Q (F0 m pc ls (.int i :: .ref (ad j) :: rest)) := by
  refine va_aldq hx hb hK hP j t0 (VWq hj hd hq) ht hin hdg ?_
  rw [if_pos (Nat.lt_of_not_le (fun h => hin (Or.inr h))), hr]
  exact kk
theorem xgald (hx : p.tables.exec = Jvm.exec) (hb : c.code = cc) (hK : va_K D vwCl (tyA K) s) (hP : va_P D vwCl (VW K ad I G A L) H) (j : Nat) (hj : j < NS) (hd : kd j = 15) {i : Int32} (hin : vp_in i (ln j)) (r : Nat) (hr : rf j i.toNatClampNeg = r) (hdg : decode cc pc = .ok (.aaload, 1)) (kk : W p l e Rm s m args below meth c H locs cells slots Q (F0 m (pc + 1) ls (.ref (ad r) :: rest))) : W p l e Rm s m args below meth c H locs cells slots Q (F0 m pc ls (.int i :: .ref (ad j) :: rest)) := by
  have hlt : i.toNatClampNeg < ln j := Nat.lt_of_not_le (fun h => hin (Or.inr h))
  have ha := VWq (K := K) (ad := ad) (I := I) (G := G) (A := A) (L := L) hj hd (by decide)
  refine W.aald (v := .ref (ad r)) (ty := .array .int) hx hb (hP j _ ha) ((hK.2 7 (K 7, .array .int) rfl).1 (ln j) (fun q => va_rf (if q < ln j then some (ad (rf j q)) else none))) rfl (fun q => by cases q) (by show ¬ (i < 0 ∨ (arrV _ _ _).slots.size ≤ _); rw [arrV_size]; exact hin) (by show (arrV _ _ _).slots[_]? = _; rw [arrV_read _ _ hlt]; show some (va_rf (if i.toNatClampNeg < ln j then some (ad (rf j i.toNatClampNeg)) else none)) = _; rw [if_pos hlt, hr]; rfl) rfl rfl hdg kk
theorem rf13 {j n : Nat} (h : kd j = 13) : rf j n = 58 + 52 * n := by simp [rf, h]
theorem rf14 {j n : Nat} (h : kd j = 14) : rf j n = j + 2 + 5 * n := by simp [rf, h]
theorem rf15 {j n : Nat} (h : kd j = 15) : rf j n = j + 1 + n := by simp [rf, h]
end VMX
