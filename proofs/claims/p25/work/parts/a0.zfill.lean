set_option maxHeartbeats 4000000 in
set_option maxRecDepth 100000 in
theorem c_J7_fill (l : Launch) (dC : Nat → ClassId) (dI : Nat → Nat → Nat) (sz : Nat) (h0 : Nat) (c0 : ClassId) (n0 : Nat) (f0 : Nat → Int32) (v0 : Int32) (hn0 : n0 < 2147483648) : Met l yJ7_fill_53178 wsJ7_fill_53178 ({ frames := 0, cells := 0, slots := 0, locals := 0 }) (va_Pc [.ref h0, .int v0] (fun U => U.heap.size = sz ∧ va_P (dC, dI) vwCl [(h0, .inl (c0, n0, .inl f0))] U.heap ∧ va_K (dC, dI) vwCl [(c0, .int)] U ∧ va_D (fun _ => True) [(h0, .inl (c0, n0, .inl f0))])) (va_Qv (fun (u : Nat → Int32) => ∀ j, j < n0 → u j = v0) (fun (u : Nat → Int32) (t : State) => va_P (dC, dI) vwCl [(h0, .inl (c0, n0, .inl u))] t.heap ∧ va_K (dC, dI) vwCl [(c0, .int)] t ∧ va_D (va_A [(h0, .inl (c0, n0, .inl f0))] sz) [(h0, .inl (c0, n0, .inl u))]) (va_A [(h0, .inl (c0, n0, .inl f0))] sz)) 0 0 (va_A [(h0, .inl (c0, n0, .inl f0))] sz) := by
  refine Met.ofW (cc := cJ7_fill_53178) (maxL := 4) (ret := none) (by decide) rfl ?_
  intro p e s m args below meth c s₁ B hml hv
  obtain ⟨rfl, hsz, hP, hK, hD0⟩ := hv
  have hx := B.exec
  have hb := B.bytes
  have hr := B.returns
  have hlocks := B.notSynchronized
  subst hsz
  have hD := hD0.self (sz := s.heap.size)
  generalize hAe : va_A [(h0, .inl (c0, n0, .inl f0))] s.heap.size = A at hD ⊢
  have hS : va_S A s.heap s.heap [] := va_S.rf
  have hl := lv_entry ([.ref h0, .int v0]) (n := 4) (Nat.le_of_ble_eq_true rfl)
  rw [lg_entry_eq]
  generalize (lg_sl ([.ref h0, .int v0]) ++ List.replicate (4 - (lg_sl ([.ref h0, .int v0])).length) Slot.unset).toArray = ls at hl ⊢
  have hl : lv_has ls 4 [(0, .ref h0), (1, .int v0)] := hl
  refine lv_iconst (v := 0) hx hb dJ7_fill_53178_0 (by decide) ?_
  refine lv_istore_n (lv' := [(2, .int 0), (0, .ref h0), (1, .int v0)]) hx hb dJ7_fill_53178_1 rfl hl (by decide) rfl (fun ls hl => ?_)
  refine lv_aload_n hx hb dJ7_fill_53178_2 rfl (lv_at hl 1 rfl) ?_
  refine va_alen (v := nI n0) hx hb hK hP 0 0 rfl rfl rfl dJ7_fill_53178_3 ?_
  refine lv_istore_n (lv' := [(3, .int (nI n0)), (2, .int 0), (0, .ref h0), (1, .int v0)]) hx hb dJ7_fill_53178_4 rfl hl (by decide) rfl (fun ls hl => ?_)
  have loop : ∀ (n i : Nat), i ≤ n0 → n0 + 1 ≤ i + n → ∀ (x2 : Int32), x2 = nI i → ∀ (f : Nat → Int32), (∀ j, j < i → f j = v0) → ∀ (H : Heap) (locs : List Loc), va_P (dC, dI) vwCl [(h0, .inl (c0, n0, .inl f))] H → va_D A [(h0, .inl (c0, n0, .inl f))] → va_S A s.heap H locs → ∀ (ls : Array Slot), lv_has ls 4 [(0, .ref h0), (1, .int v0), (2, .int x2), (3, .int (nI n0))] → W p l e ({ frames := 0, cells := 0, slots := 0, locals := 0 }) s m ([.ref h0, .int v0] : List Value).toArray below meth c H locs 0 0 (MQ below (va_Qv (fun (u : Nat → Int32) => ∀ j, j < n0 → u j = v0) (fun (u : Nat → Int32) (t : State) => va_P (dC, dI) vwCl [(h0, .inl (c0, n0, .inl u))] t.heap ∧ va_K (dC, dI) vwCl [(c0, .int)] t ∧ va_D A [(h0, .inl (c0, n0, .inl u))]) A) ([.ref h0, .int v0] : List Value).toArray s 0 0 A) (F0 m 5 ls []) := by
    intro n
    induction n with
    | zero => intro i h1 h2; exact absurd h2 (by omega)
    | succ n ih =>
      intro i hi hin x2 ex2 f hf H locs hP hD hS ls hl
      refine lv_iload_n hx hb dJ7_fill_53178_5 rfl (lv_at hl 2 rfl) ?_
      refine lv_iload_n hx hb dJ7_fill_53178_6 rfl (lv_at hl 3 rfl) ?_
      refine lv_icmp_ge (tgt := 20) hx hb dJ7_fill_53178_7 (by decide) (fun c_1 => ?_) (fun c_1 => ?_)
      · have he : n0 ≤ i := by
          rw [ex2] at c_1
          exact (nI_leI hn0 (Nat.lt_of_le_of_lt hi hn0)).mp c_1
        exact W.vret hx hb hr (fun t ht hW => ⟨⟨f, rfl, (fun j hj => hf j (by omega)), by rw [ht]; exact hP, va_K.moved hW.alike hK, hD⟩, hS.F ht⟩) hS.2.2 dJ7_fill_53178_20
      · have hlt : i < n0 := by
          rcases Nat.lt_or_ge i n0 with q | q
          · exact q
          · exact absurd (by rw [ex2]; exact nI_le q (Nat.lt_of_le_of_lt hi hn0)) c_1
        have h_in : vp_in x2 n0 := by rw [ex2]; exact vp_in_nI hlt hn0
        have hcl : x2.toNatClampNeg = i := by rw [ex2]; exact nI_clamp (by omega)
        refine lv_aload_n hx hb dJ7_fill_53178_10 rfl (lv_at hl 0 rfl) ?_
        refine lv_iload_n hx hb dJ7_fill_53178_11 rfl (lv_at hl 2 rfl) ?_
        refine lv_iload_n hx hb dJ7_fill_53178_12 rfl (lv_at hl 1 rfl) ?_
        refine va_iast hx hb hK hP hD hS 0 0 rfl rfl h_in dJ7_fill_53178_13 (fun H locs hP hD hS => ?_)
        have hP : va_P (dC, dI) vwCl [(h0, .inl (c0, n0, .inl (upd f x2.toNatClampNeg v0)))] H := hP
        have hD : va_D A [(h0, .inl (c0, n0, .inl (upd f x2.toNatClampNeg v0)))] := hD
        obtain ⟨x3, ex3⟩ : ∃ y : Int32, y = x2 + 1 := ⟨_, rfl⟩
        refine lv_iinc (v := x3) (lv' := [(2, .int x3), (0, .ref h0), (1, .int v0), (3, .int (nI n0))]) hx hb dJ7_fill_53178_14 hl (k := 2) rfl (by rw [ex3]; rfl) (by decide) rfl (fun ls hl => ?_)
        refine lv_goto (tgt := 5) hx hb dJ7_fill_53178_17 (by decide) ?_
        refine ih (i + 1) hlt (by omega) x3 (by rw [ex3, ex2]; exact nI_1 i) (upd f x2.toNatClampNeg v0) (fun j hj => ?_) H locs hP hD hS ls (lv_sub hl [1, 2, 0, 3] rfl)
        rw [hcl]
        by_cases hji : j = i
        · subst hji; exact pk_us
        · rw [pk_un hji]; exact hf j (by omega)
  exact loop (n0 + 1) 0 (Nat.zero_le _) (by omega) 0 nI_0.symm f0 (fun j hj => absurd hj (Nat.not_lt_zero j)) s.heap [] hP hD hS ls (lv_sub hl [2, 3, 1, 0] rfl)
