set_option maxHeartbeats 4000000 in
set_option maxRecDepth 100000 in
/-- the law's loop -/
theorem law_loop {p : Program} {l : Launch} {e : Env} {s : State} {m : MethodId} {below : List Frame} {meth : Method} {c : Code} {dC : Nat → ClassId} {dI : Nat → Nat → Nat} {b N : Nat} {xs : Nat → Int32} {K : Nat → ClassId} {ad : Nat → Nat} (C0 : lw_At p s m meth c b N xs) (hN : N ≤ 2560) (hK : va_K (dC, dI) vwCl (tyA K) s) (hap : apart ad (fun _ => True)) (hge : ∀ j, j < NS → s.heap.size ≤ ad j) : ∀ (k n : Nat) (_ : n + k = 512) (I : Nat → Nat → Int32) (G : Nat → Nat → Nat) (A : Nat → Nat → Int32) (L : Nat → Nat → Int64) (_ : Rel n I G A L I A) (H : Heap) (locs : List Loc) (_ : va_P (dC, dI) vwCl (VW K ad I G A L) H) (_ : va_S (fun q : Nat => s.heap.size ≤ q) s.heap H locs) (ls : Array Slot) (_ : lv_has ls 4 [(3, .int (nI (5 * n))), (2, .ref (ad 318)), (1, .ref (ad 0)), (0, .ref b)]), W p l e room_1 s m #[Value.ref b] below meth c H locs 378 153906 (lw_Z below #[Value.ref b] s) (F0 m 18 ls []) := by
  obtain ⟨hx, hb, hr, hml, hown, hts0, hX, hbl, hlocks, hgv⟩ := id C0
  have hts : ∀ w ∈ wsL_law, w.before #[Value.ref b] s = true := fun w h => hts0 w (wsL_law_in w h)
  have hown : s.vm.findClass RL = some m.cls := hown
  have hA : ∀ q : Nat, s.heap.size ≤ q → (fun q : Nat => s.heap.size ≤ q) q := fun _ h => h
  have hbA : ¬ (fun q : Nat => s.heap.size ≤ q) b := Nat.not_le.mpr hbl
  intro k
  induction k with
  | zero =>
    intro n hk I G A L h H locs hP hS ls hl
    refine lv_iload_n hx hb dL_law_18 rfl (lv_at hl 0 rfl) ?_
    refine lv_aload_n hx hb dL_law_19 rfl (lv_at hl 3 rfl) ?_
    refine va_slen hx hb hX hbl hbA hS dL_law_20 ?_
    refine lv_iconst (v := 5) hx hb dL_law_21 (by decide) ?_
    refine lv_isub hx hb dL_law_22 ?_
    refine lv_icmp_gt (tgt := 1050) hx hb dL_law_23 (by decide) (fun _ => ?_) (fun c_9 => ?_)
    · refine lv_iconst (v := 1) hx hb dL_law_1050 (by decide) ?_
      refine va_forget (fun q hq => hS.2.2 q hq) ?_
      refine W.widen (k := 600000) (n := 7302250) (Nat.le_of_ble_eq_true rfl) (Nat.le_of_ble_eq_true rfl) ?_
      exact lw_ret hx hb hr hlocks dL_law_1051
    · exfalso
      have := lw_more hN (by omega) c_9
      omega
  | succ k ih =>
    intro n hk I G A L h H locs hP hS ls hl
    refine lv_iload_n hx hb dL_law_18 rfl (lv_at hl 0 rfl) ?_
    refine lv_aload_n hx hb dL_law_19 rfl (lv_at hl 3 rfl) ?_
    refine va_slen hx hb hX hbl hbA hS dL_law_20 ?_
    refine lv_iconst (v := 5) hx hb dL_law_21 (by decide) ?_
    refine lv_isub hx hb dL_law_22 ?_
    refine lv_icmp_gt (tgt := 1050) hx hb dL_law_23 (by decide) (fun _ => ?_) (fun c_9 => ?_)
    · refine lv_iconst (v := 1) hx hb dL_law_1050 (by decide) ?_
      refine va_forget (fun q hq => hS.2.2 q hq) ?_
      refine W.widen (k := 600000) (n := 7302250) (Nat.le_of_ble_eq_true rfl) (Nat.le_of_ble_eq_true rfl) ?_
      exact lw_ret hx hb hr hlocks dL_law_1051
    · have hn := lw_more hN (by omega) c_9
      have kk : ∀ (I : Nat → Nat → Int32) (G : Nat → Nat → Nat) (A : Nat → Nat → Int32) (L : Nat → Nat → Int64) (H : Heap) (locs : List Loc), Rel (n + 1) I G A L I A → va_P (dC, dI) vwCl (VW K ad I G A L) H → va_S (fun q : Nat => s.heap.size ≤ q) s.heap H locs → W p l e room_1 s m #[Value.ref b] below meth c H locs 378 153906 (lw_Z below #[Value.ref b] s) (F0 m 1044 ls []) := by
        intro I G A L H locs h hP hS
        refine lv_iinc (v := nI (5 * (n + 1))) (lv' := [(3, .int (nI (5 * (n + 1)))), (2, .ref (ad 318)), (1, .ref (ad 0)), (0, .ref b)]) hx hb dL_law_1044 hl (k := 0) rfl (nI_add (5 * n) 5) (by decide) rfl (fun ls hl => ?_)
        refine lv_goto (tgt := 18) hx hb dL_law_1047 (by decide) ?_
        exact ih (n + 1) (by omega) I G A L h H locs hP hS ls hl
      refine lv_aload_n hx hb dL_law_26 rfl (lv_at hl 3 rfl) ?_
      refine lv_iload_n hx hb dL_law_27 rfl (lv_at hl 0 rfl) ?_
      refine va_sld hx hb hX hbl hbA hS (lw_in0 hN hn) dL_law_28 ?_
      refine lv_bipush (v := 31) hx hb dL_law_29 (by decide) ?_
      refine lv_iand hx hb dL_law_31 ?_
      obtain ⟨j, hj, ej⟩ := pk_andE (xs (nI (5 * n)).toNatClampNeg) (m := 31) 5 (by decide)
      rw [ej]
      have hj : j < 32 := hj
      clear ej
      rcases (show j = 0 ∨ j = 1 ∨ j = 2 ∨ j = 3 ∨ j = 4 ∨ j = 5 ∨ j = 6 ∨ j = 7 ∨ j = 8 ∨ j = 9 ∨ j = 10 ∨ j = 11 ∨ j = 12 ∨ j = 13 ∨ j = 14 ∨ j = 15 ∨ j = 16 ∨ j = 17 ∨ j = 18 ∨ j = 19 ∨ j = 20 ∨ j = 21 ∨ j = 22 ∨ j = 23 ∨ j = 24 ∨ j = 25 ∨ j = 26 ∨ j = 27 ∨ j = 28 ∨ j = 29 ∨ j = 30 ∨ j = 31 by omega) with rfl | rfl | rfl | rfl | rfl | rfl | rfl | rfl | rfl | rfl | rfl | rfl | rfl | rfl | rfl | rfl | rfl | rfl | rfl | rfl | rfl | rfl | rfl | rfl | rfl | rfl | rfl | rfl | rfl | rfl | rfl | rfl
      · exact lv_tableIn (off := 128) (tgt := 160) hx hb dL_law_32 (by decide) (by decide) (by decide) (by decide) (law_c0 C0 hN hK hap hge hn I G A L h H locs hP hS ls hl kk)
      · exact lv_tableIn (off := 141) (tgt := 173) hx hb dL_law_32 (by decide) (by decide) (by decide) (by decide) (law_c1 C0 hN hK hap hge hn I G A L h H locs hP hS ls hl kk)
      · exact lv_tableIn (off := 184) (tgt := 216) hx hb dL_law_32 (by decide) (by decide) (by decide) (by decide) (law_c2 C0 hN hK hap hge hn I G A L h H locs hP hS ls hl kk)
      · exact lv_tableIn (off := 237) (tgt := 269) hx hb dL_law_32 (by decide) (by decide) (by decide) (by decide) (law_c3 C0 hN hK hap hge hn I G A L h H locs hP hS ls hl kk)
      · exact lv_tableIn (off := 280) (tgt := 312) hx hb dL_law_32 (by decide) (by decide) (by decide) (by decide) (law_c4 C0 hN hK hap hge hn I G A L h H locs hP hS ls hl kk)
      · exact lv_tableIn (off := 333) (tgt := 365) hx hb dL_law_32 (by decide) (by decide) (by decide) (by decide) (law_c5 C0 hN hK hap hge hn I G A L h H locs hP hS ls hl kk)
      · exact lv_tableIn (off := 376) (tgt := 408) hx hb dL_law_32 (by decide) (by decide) (by decide) (by decide) (law_c6 C0 hN hK hap hge hn I G A L h H locs hP hS ls hl kk)
      · exact lv_tableIn (off := 399) (tgt := 431) hx hb dL_law_32 (by decide) (by decide) (by decide) (by decide) (law_c7 C0 hN hK hap hge hn I G A L h H locs hP hS ls hl kk)
      · exact lv_tableIn (off := 432) (tgt := 464) hx hb dL_law_32 (by decide) (by decide) (by decide) (by decide) (law_c8 C0 hN hK hap hge hn I G A L h H locs hP hS ls hl kk)
      · exact lv_tableIn (off := 455) (tgt := 487) hx hb dL_law_32 (by decide) (by decide) (by decide) (by decide) (law_c9 C0 hN hK hap hge hn I G A L h H locs hP hS ls hl kk)
      · exact lv_tableIn (off := 468) (tgt := 500) hx hb dL_law_32 (by decide) (by decide) (by decide) (by decide) (law_c10 C0 hN hK hap hge hn I G A L h H locs hP hS ls hl kk)
      · exact lv_tableIn (off := 491) (tgt := 523) hx hb dL_law_32 (by decide) (by decide) (by decide) (by decide) (law_c11 C0 hN hK hap hge hn I G A L h H locs hP hS ls hl kk)
      · exact lv_tableIn (off := 524) (tgt := 556) hx hb dL_law_32 (by decide) (by decide) (by decide) (by decide) (law_c12 C0 hN hK hap hge hn I G A L h H locs hP hS ls hl kk)
      · exact lv_tableIn (off := 537) (tgt := 569) hx hb dL_law_32 (by decide) (by decide) (by decide) (by decide) (law_c13 C0 hN hK hap hge hn I G A L h H locs hP hS ls hl kk)
      · exact lv_tableIn (off := 570) (tgt := 602) hx hb dL_law_32 (by decide) (by decide) (by decide) (by decide) (law_c14 C0 hN hK hap hge hn I G A L h H locs hP hS ls hl kk)
      · exact lv_tableIn (off := 603) (tgt := 635) hx hb dL_law_32 (by decide) (by decide) (by decide) (by decide) (law_c15 C0 hN hK hap hge hn I G A L h H locs hP hS ls hl kk)
      · exact lv_tableIn (off := 636) (tgt := 668) hx hb dL_law_32 (by decide) (by decide) (by decide) (by decide) (law_c16 C0 hN hK hap hge hn I G A L h H locs hP hS ls hl kk)
      · exact lv_tableIn (off := 679) (tgt := 711) hx hb dL_law_32 (by decide) (by decide) (by decide) (by decide) (law_c17 C0 hN hK hap hge hn I G A L h H locs hP hS ls hl kk)
      · exact lv_tableIn (off := 712) (tgt := 744) hx hb dL_law_32 (by decide) (by decide) (by decide) (by decide) (law_c18 C0 hN hK hap hge hn I G A L h H locs hP hS ls hl kk)
      · exact lv_tableIn (off := 735) (tgt := 767) hx hb dL_law_32 (by decide) (by decide) (by decide) (by decide) (law_c19 C0 hN hK hap hge hn I G A L h H locs hP hS ls hl kk)
      · exact lv_tableIn (off := 758) (tgt := 790) hx hb dL_law_32 (by decide) (by decide) (by decide) (by decide) (law_c20 C0 hN hK hap hge hn I G A L h H locs hP hS ls hl kk)
      · exact lv_tableIn (off := 801) (tgt := 833) hx hb dL_law_32 (by decide) (by decide) (by decide) (by decide) (law_c21 C0 hN hK hap hge hn I G A L h H locs hP hS ls hl kk)
      · exact lv_tableIn (off := 834) (tgt := 866) hx hb dL_law_32 (by decide) (by decide) (by decide) (by decide) (law_c22 C0 hN hK hap hge hn I G A L h H locs hP hS ls hl kk)
      · exact lv_tableIn (off := 857) (tgt := 889) hx hb dL_law_32 (by decide) (by decide) (by decide) (by decide) (law_c23 C0 hN hK hap hge hn I G A L h H locs hP hS ls hl kk)
      · exact lv_tableIn (off := 890) (tgt := 922) hx hb dL_law_32 (by decide) (by decide) (by decide) (by decide) (law_c24 C0 hN hK hap hge hn I G A L h H locs hP hS ls hl kk)
      · exact lv_tableIn (off := 913) (tgt := 945) hx hb dL_law_32 (by decide) (by decide) (by decide) (by decide) (law_c25 C0 hN hK hap hge hn I G A L h H locs hP hS ls hl kk)
      · exact lv_tableIn (off := 956) (tgt := 988) hx hb dL_law_32 (by decide) (by decide) (by decide) (by decide) (law_c26 C0 hN hK hap hge hn I G A L h H locs hP hS ls hl kk)
      · exact lv_tableIn (off := 999) (tgt := 1031) hx hb dL_law_32 (by decide) (by decide) (by decide) (by decide) (law_c27 C0 hN hK hap hge hn I G A L h H locs hP hS ls hl kk)
      · exact lv_tableOut (tgt := 1044) hx hb dL_law_32 (by decide) (by decide) (kk I G A L H locs (Rel_up h) hP hS)
      · exact lv_tableOut (tgt := 1044) hx hb dL_law_32 (by decide) (by decide) (kk I G A L H locs (Rel_up h) hP hS)
      · exact lv_tableOut (tgt := 1044) hx hb dL_law_32 (by decide) (by decide) (kk I G A L H locs (Rel_up h) hP hS)
      · exact lv_tableOut (tgt := 1044) hx hb dL_law_32 (by decide) (by decide) (kk I G A L H locs (Rel_up h) hP hS)
set_option maxHeartbeats 4000000 in
set_option maxRecDepth 100000 in
/-- THE LAW, from its entry -/
theorem whole_start {p : Program} {e : Env} {s : State} {m : MethodId} {below : List Frame} {meth : Method} {c : Code} (l : Launch) {b N : Nat} {xs : Nat → Int32} (hN : N ≤ 2560) (C0 : lw_At p s m meth c b N xs) : W p l e room_1 s m #[Value.ref b] below meth c s.heap [] 0 0 (lw_Z below #[Value.ref b] s) (entryFrame m ([Value.ref b] : List Value).toArray 4) := by
  obtain ⟨hx, hb, hr, hml, hown, hts0, hX, hbl, hlocks, hgv⟩ := id C0
  have hts : ∀ w ∈ wsL_law, w.before #[Value.ref b] s = true := fun w h => hts0 w (wsL_law_in w h)
  have hown : s.vm.findClass RL = some m.cls := hown
  have hA : ∀ q : Nat, s.heap.size ≤ q → (fun q : Nat => s.heap.size ≤ q) q := fun _ h => h
  have hbA : ¬ (fun q : Nat => s.heap.size ≤ q) b := Nat.not_le.mpr hbl
  obtain ⟨c0, iS0, hKn0⟩ := u_known (C := RX0) (T := TX0) (N := 3) (n := 3) hts inlX0 (hts (.instantiable RX0 3) (by decide +kernel))
  obtain ⟨c1, iS1, hKn1⟩ := u_known (C := RX1) (T := TX1) (N := 9) (n := 9) hts inlX1 (hts (.instantiable RX1 9) (by decide +kernel))
  obtain ⟨c2, iS2, hKn2⟩ := u_known (C := RX2) (T := TX2) (N := 7) (n := 7) hts inlX2 (hts (.instantiable RX2 7) (by decide +kernel))
  obtain ⟨c3, iS3, hKn3⟩ := u_known (C := RX3) (T := TX3) (N := 6) (n := 6) hts inlX3 (hts (.instantiable RX3 6) (by decide +kernel))
  obtain ⟨c4, iS4, hKn4⟩ := u_known (C := RX4) (T := TX4) (N := 7) (n := 7) hts inlX4 (hts (.instantiable RX4 7) (by decide +kernel))
  obtain ⟨c5, iS5, hKn5⟩ := u_known (C := RX5) (T := TX5) (N := 16) (n := 16) hts inlX5 (hts (.instantiable RX5 16) (by decide +kernel))
  obtain ⟨c6, iS6, hKn6⟩ := u_known (C := RX6) (T := TX6) (N := 18) (n := 18) hts inlX6 (hts (.instantiable RX6 18) (by decide +kernel))
  obtain ⟨c7, iS7, hKn7⟩ := u_known (C := RX7) (T := TX7) (N := 79) (n := 79) hts inlX7 (hts (.instantiable RX7 79) (by decide +kernel))
  obtain ⟨dC, dI, hKc⟩ : ∃ (dC : Nat → ClassId) (dI : Nat → Nat → Nat), ∀ (k : Nat) (q : vw_C), vwCl[k]? = some q → u_Kn s q.1 q.2.1 q.2.2 (dC k) (dI k) := by
    refine ⟨fun k => if k = 0 then c0 else if k = 1 then c1 else if k = 2 then c2 else if k = 3 then c3 else if k = 4 then c4 else if k = 5 then c5 else if k = 6 then c6 else c7, fun k => if k = 0 then iS0 else if k = 1 then iS1 else if k = 2 then iS2 else if k = 3 then iS3 else if k = 4 then iS4 else if k = 5 then iS5 else if k = 6 then iS6 else iS7, ?_⟩
    intro k q hq
    match k, hq with
    | 0, hq => cases hq; exact hKn0
    | 1, hq => cases hq; exact hKn1
    | 2, hq => cases hq; exact hKn2
    | 3, hq => cases hq; exact hKn3
    | 4, hq => cases hq; exact hKn4
    | 5, hq => cases hq; exact hKn5
    | 6, hq => cases hq; exact hKn6
    | 7, hq => cases hq; exact hKn7
    | k + 8, hq => simp [vwCl] at hq
  have hS : va_S (fun q : Nat => s.heap.size ≤ q) s.heap s.heap [] := va_S.rf
  obtain ⟨K, hKa⟩ := ty_all (s := s) (args := #[Value.ref b]) (hts0 (.arrayClass .int) (by decide +kernel)) (hts0 (.arrayClass .byte) (by decide +kernel)) (hts0 (.arrayClass .short) (by decide +kernel)) (hts0 (.arrayClass .boolean) (by decide +kernel)) (hts0 (.arrayClass .long) (by decide +kernel)) (hts0 (.arrayOver (.object RX1)) (by decide +kernel)) (hts0 (.arrayOver (.object RX2)) (by decide +kernel)) (hts0 (.arrayOver (.array .int)) (by decide +kernel))
  have hK : va_K (dC, dI) vwCl [(K 0, .int), (K 1, .byte), (K 2, .short), (K 3, .boolean), (K 4, .long), (K 5, .object RX1), (K 6, .object RX2), (K 7, .array .int)] s := ⟨hKc, hKa⟩
  have hP : va_P (dC, dI) vwCl [] s.heap := va_Pnil _ _ _
  have hD : va_D (fun q : Nat => s.heap.size ≤ q) [] := va_Dnil _
  have hN5 : nwX s := ⟨va_Nw.of rfl (hts0 (.methodLinkNest RX6 21 yX4_init "CrateHelpers") (by decide +kernel)), va_Nw.of rfl (hts0 (.methodLinkNest RX6 47 yX0_init "CrateHelpers") (by decide +kernel)), va_Nw.of rfl (hts0 (.methodLinkNest RX1 46 yX2_init "CrateHelpers") (by decide +kernel)), va_Nw.of rfl (hts0 (.methodLinkNest RX5 30 yX0_init "CrateHelpers") (by decide +kernel)), va_AO.of (hts0 (.arrayOver (.object RX1)) (by decide +kernel)), va_AO.of (hts0 (.arrayOver (.object RX2)) (by decide +kernel)), hts0 (.arrayOver (.array .int)) (by decide +kernel)⟩
  have hl := lv_entry ([.ref b]) (n := 4) (Nat.le_of_ble_eq_true rfl)
  rw [lg_entry_eq]
  generalize (lg_sl ([.ref b]) ++ List.replicate (4 - (lg_sl ([.ref b])).length) Slot.unset).toArray = ls at hl ⊢
  have hl : lv_has ls 4 [(0, .ref b)] := hl
  refine va_new (ci := 6) (fs := [.null, .int 0, .null, .int 0, .null, .int 0, .null, .int 0, .int 0, .int 0, .null, .null, .null, .null, .null, .null, .null, .int 0]) (C := RX6) (T := TX6) (N := 18) hx hb hts inlX6 tyX6 tyX6_ok hown (hts (.classLink RL 7 RX6) (by decide +kernel)) (hts (.instantiable RX6 18) (by decide +kernel)) (hts (.initialized RX6) (by decide +kernel)) hK hP hD hS hA rfl (by decide +kernel) (Nat.le_of_ble_eq_true rfl) (Nat.le_of_ble_eq_true rfl) dL_law_0 (fun h0 H hP hD hS => ?_)
  have hP : va_P (dC, dI) vwCl [(h0, .inr (6, [.null, .int 0, .null, .int 0, .null, .int 0, .null, .int 0, .int 0, .int 0, .null, .null, .null, .null, .null, .null, .null, .int 0]))] H := hP
  have hD : va_D (fun q : Nat => s.heap.size ≤ q) [(h0, .inr (6, [.null, .int 0, .null, .int 0, .null, .int 0, .null, .int 0, .int 0, .int 0, .null, .null, .null, .null, .null, .null, .null, .int 0]))] := hD
  refine W.widen (k := 1) (n := 18) (Nat.le_of_ble_eq_true rfl) (Nat.le_of_ble_eq_true rfl) ?_
  refine lv_dup hx hb dL_law_3 rfl ?_
  have hPc := hP.sub (ws' := [(h0, .inr (6, [.null, .int 0, .null, .int 0, .null, .int 0, .null, .int 0, .int 0, .int 0, .null, .null, .null, .null, .null, .null, .null, .int 0]))]) [0] rfl
  have hDc := hD.sub (ws' := [(h0, .inr (6, [.null, .int 0, .null, .int 0, .null, .int 0, .null, .int 0, .int 0, .int 0, .null, .null, .null, .null, .null, .null, .null, .int 0]))]) [0] (by decide) rfl
  have hFc := va_free (wc := [(h0, .inr (6, [.null, .int 0, .null, .int 0, .null, .int 0, .null, .int 0, .int 0, .int 0, .null, .null, .null, .null, .null, .null, .null, .int 0]))]) hD hS hA [0] rfl
  refine va_callv (va_runI (As := []) (rest := [.ref h0]) ⟨hx, hb, hml, hown, hts⟩ (z_X6_init l dC dI H.size K h0) (cwI 0 hts gL_law_X6_init rfl rfl rfl (hts (.initialized RX6) (by decide +kernel)) (hts (.methodLink RL 9 yX6_init) (by decide +kernel)) (hts (.instanceMethod yX6_init) (by decide +kernel)) rfl (by decide +kernel) ⟨Nat.le_of_ble_eq_true rfl, Nat.le_of_ble_eq_true rfl⟩) ⟨fun a U g mk q => by obtain ⟨q0, q1, qP, qK, qD, qN⟩ := q; exact ⟨q0, q1, qP, va_K.moved (u := U) (U := U.calling g mk a) (Vm.Alike.refl U.vm) qK, qD, nwX_same (u := U) (U := U.calling g mk a) rfl qN⟩, fun U hU hW => ⟨rfl, by rw [hU], by rw [hU]; exact hPc, va_K.moved hW.alike hK, hDc.weaken (fun _ _ _ _ => trivial), nwX_moved hW hN5⟩⟩ rfl rfl hl.1 rfl (lv_room (Nat.le_of_ble_eq_true rfl)) dL_law_4 ⟨Nat.le_of_ble_eq_true rfl, Nat.le_of_ble_eq_true rfl⟩) hS (fun q _ h => hFc q h) hFc (fun u t H1 locs ht hvm hw hB hz1 hk1 hS => ?_)
  obtain ⟨ad, u18, u19, h19, ha0, hP1, hK1, hD1⟩ := hB
  rw [ht] at hP1
  obtain ⟨hP, hD⟩ := va_join (wr := []) (w1 := VX K ad u18 u19) hP hD [0] [] rfl rfl (by decide) (by decide) hk1 hFc hP1 hD1
  generalize H1 = H at hP hS ⊢
  have hP : va_P (dC, dI) vwCl (VX K ad u18 u19) H := hP
  have hD : va_D (fun q : Nat => s.heap.size ≤ q) (VX K ad u18 u19) := hD
  refine W.widen (k := 318) (n := 42396) (Nat.le_of_ble_eq_true rfl) (Nat.le_of_ble_eq_true rfl) ?_
  refine lv_astore_n (lv' := [(1, .ref h0), (0, .ref b)]) hx hb dL_law_7 rfl hl (by decide) rfl (fun ls hl => ?_)
  refine va_new (ci := 7) (fs := [.int 0, .int 0, .int 0, .null, .null, .null, .null, .null, .null, .null, .null, .null, .null, .null, .int 0, .int 0, .null, .null, .int 0, .int 0, .null, .null, .null, .int 0, .int 0, .null, .null, .null, .int 0, .int 0, .int 0, .int 0, .null, .null, .null, .null, .null, .null, .null, .null, .null, .null, .null, .null, .null, .null, .null, .null, .int 0, .null, .null, .null, .null, .null, .null, .null, .null, .int 0, .int 0, .int 0, .null, .int 0, .null, .null, .int 0, .int 0, .null, .null, .null, .null, .null, .null, .null, .null, .null, .null, .null, .null, .null]) (C := RX7) (T := TX7) (N := 79) hx hb hts inlX7 tyX7 tyX7_ok hown (hts (.classLink RL 10 RX7) (by decide +kernel)) (hts (.instantiable RX7 79) (by decide +kernel)) (hts (.initialized RX7) (by decide +kernel)) hK hP hD hS hA rfl (by decide +kernel) (Nat.le_of_ble_eq_true rfl) (Nat.le_of_ble_eq_true rfl) dL_law_8 (fun h1 H hP hD hS => ?_)
  refine W.widen (k := 319) (n := 42475) (Nat.le_of_ble_eq_true rfl) (Nat.le_of_ble_eq_true rfl) ?_
  refine lv_dup hx hb dL_law_11 rfl ?_
  have hP := tl_P List.perm_append_comm hP
  have hD := tl_D List.perm_append_comm hD
  have hP : va_P (dC, dI) vwCl ([(h1, .inr (7, [.int 0, .int 0, .int 0, .null, .null, .null, .null, .null, .null, .null, .null, .null, .null, .null, .int 0, .int 0, .null, .null, .int 0, .int 0, .null, .null, .null, .int 0, .int 0, .null, .null, .null, .int 0, .int 0, .int 0, .int 0, .null, .null, .null, .null, .null, .null, .null, .null, .null, .null, .null, .null, .null, .null, .null, .null, .int 0, .null, .null, .null, .null, .null, .null, .null, .null, .int 0, .int 0, .int 0, .null, .int 0, .null, .null, .int 0, .int 0, .null, .null, .null, .null, .null, .null, .null, .null, .null, .null, .null, .null, .null]))] ++ VX K ad u18 u19) H := hP
  have hD : va_D (fun q : Nat => s.heap.size ≤ q) ([(h1, .inr (7, [.int 0, .int 0, .int 0, .null, .null, .null, .null, .null, .null, .null, .null, .null, .null, .null, .int 0, .int 0, .null, .null, .int 0, .int 0, .null, .null, .null, .int 0, .int 0, .null, .null, .null, .int 0, .int 0, .int 0, .int 0, .null, .null, .null, .null, .null, .null, .null, .null, .null, .null, .null, .null, .null, .null, .null, .null, .int 0, .null, .null, .null, .null, .null, .null, .null, .null, .int 0, .int 0, .int 0, .null, .int 0, .null, .null, .int 0, .int 0, .null, .null, .null, .null, .null, .null, .null, .null, .null, .null, .null, .null, .null]))] ++ VX K ad u18 u19) := hD
  have hPc := hP.sub (ws' := [(h1, .inr (7, [.int 0, .int 0, .int 0, .null, .null, .null, .null, .null, .null, .null, .null, .null, .null, .null, .int 0, .int 0, .null, .null, .int 0, .int 0, .null, .null, .null, .int 0, .int 0, .null, .null, .null, .int 0, .int 0, .int 0, .int 0, .null, .null, .null, .null, .null, .null, .null, .null, .null, .null, .null, .null, .null, .null, .null, .null, .int 0, .null, .null, .null, .null, .null, .null, .null, .null, .int 0, .int 0, .int 0, .null, .int 0, .null, .null, .int 0, .int 0, .null, .null, .null, .null, .null, .null, .null, .null, .null, .null, .null, .null, .null]))]) [0] rfl
  have hDc := hD.sub (ws' := [(h1, .inr (7, [.int 0, .int 0, .int 0, .null, .null, .null, .null, .null, .null, .null, .null, .null, .null, .null, .int 0, .int 0, .null, .null, .int 0, .int 0, .null, .null, .null, .int 0, .int 0, .null, .null, .null, .int 0, .int 0, .int 0, .int 0, .null, .null, .null, .null, .null, .null, .null, .null, .null, .null, .null, .null, .null, .null, .null, .null, .int 0, .null, .null, .null, .null, .null, .null, .null, .null, .int 0, .int 0, .int 0, .null, .int 0, .null, .null, .int 0, .int 0, .null, .null, .null, .null, .null, .null, .null, .null, .null, .null, .null, .null, .null]))]) [0] (by decide) rfl
  have hFc := va_free (wc := [(h1, .inr (7, [.int 0, .int 0, .int 0, .null, .null, .null, .null, .null, .null, .null, .null, .null, .null, .null, .int 0, .int 0, .null, .null, .int 0, .int 0, .null, .null, .null, .int 0, .int 0, .null, .null, .null, .int 0, .int 0, .int 0, .int 0, .null, .null, .null, .null, .null, .null, .null, .null, .null, .null, .null, .null, .null, .null, .null, .null, .int 0, .null, .null, .null, .null, .null, .null, .null, .null, .int 0, .int 0, .int 0, .null, .int 0, .null, .null, .int 0, .int 0, .null, .null, .null, .null, .null, .null, .null, .null, .null, .null, .null, .null, .null]))]) hD hS hA [0] rfl
  refine va_callv (va_runI (As := []) (rest := [.ref h1]) ⟨hx, hb, hml, hown, hts⟩ (z_X7_init l dC dI H.size K h1) (cwI 0 hts gL_law_X7_init rfl rfl rfl (hts (.initialized RX7) (by decide +kernel)) (hts (.methodLink RL 12 yX7_init) (by decide +kernel)) (hts (.instanceMethod yX7_init) (by decide +kernel)) rfl (by decide +kernel) ⟨Nat.le_of_ble_eq_true rfl, Nat.le_of_ble_eq_true rfl⟩) ⟨fun a U g mk q => by obtain ⟨q0, q1, qP, qK, qD⟩ := q; exact ⟨q0, q1, qP, va_K.moved (u := U) (U := U.calling g mk a) (Vm.Alike.refl U.vm) qK, qD⟩, fun U hU hW => ⟨rfl, by rw [hU], by rw [hU]; exact hPc, va_K.moved hW.alike hK, hDc.weaken (fun _ _ _ _ => trivial)⟩⟩ rfl rfl hl.1 rfl (lv_room (Nat.le_of_ble_eq_true rfl)) dL_law_12 ⟨Nat.le_of_ble_eq_true rfl, Nat.le_of_ble_eq_true rfl⟩) hS (fun q _ h => hFc q h) hFc (fun u t H1 locs ht hvm hw hB hz1 hk1 hS => ?_)
  obtain ⟨m9, hm0, hP1, hK1, hD1⟩ := hB
  rw [ht] at hP1
  obtain ⟨hP, hD⟩ := tl_join (lits := [(h1, .inr (7, [.int 0, .int 0, .int 0, .null, .null, .null, .null, .null, .null, .null, .null, .null, .null, .null, .int 0, .int 0, .null, .null, .int 0, .int 0, .null, .null, .null, .int 0, .int 0, .null, .null, .null, .int 0, .int 0, .int 0, .int 0, .null, .null, .null, .null, .null, .null, .null, .null, .null, .null, .null, .null, .null, .null, .null, .null, .int 0, .null, .null, .null, .null, .null, .null, .null, .null, .int 0, .int 0, .int 0, .null, .int 0, .null, .null, .int 0, .int 0, .null, .null, .null, .null, .null, .null, .null, .null, .null, .null, .null, .null, .null]))]) (tl := VX K ad u18 u19) (wr := []) (w1 := VMR K m9) hP hD [0] [] rfl rfl (by decide) (by decide) 1 rfl (by decide) (by decide) hk1 hFc hP1 hD1
  generalize H1 = H at hP hS ⊢
  refine W.widen (k := 378) (n := 153906) (Nat.le_of_ble_eq_true rfl) (Nat.le_of_ble_eq_true rfl) ?_
  refine lv_astore_n (lv' := [(2, .ref h1), (1, .ref h0), (0, .ref b)]) hx hb dL_law_15 rfl hl (by decide) rfl (fun ls hl => ?_)
  refine lv_iconst (v := 0) hx hb dL_law_16 (by decide) ?_
  refine lv_istore_n (lv' := [(3, .int 0), (2, .ref h1), (1, .ref h0), (0, .ref b)]) hx hb dL_law_17 rfl hl (by decide) rfl (fun ls hl => ?_)
  have hP := tl_eqP vw_all hP
  have hD := tl_eqD vw_all hD
  obtain ⟨hap, hge⟩ := vw_ap hD
  refine law_loop (ad := adx ad m9) C0 hN hK hap hge 512 0 (by omega) I0 G0 (A0 u18 u19) L0 (Rel_0 h19) H _ hP hS ls ?_
  have e0 : adx ad m9 0 = h0 := ha0
  have e1 : adx ad m9 318 = h1 := hm0
  rw [e0, e1]
  exact hl
