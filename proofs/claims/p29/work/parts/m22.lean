/-! part a5.join -/
/-! THE FIRST MEMORY: both objects together; Rel 0 -/
def adx (ad m : Nat → Nat) : Nat → Nat := fun j => if j < 318 then ad j else m (j - 318)
theorem cx_rk : ∀ j, j < 318 → kd j < 8 → ∀ k, k < nf (kd j) → (rk (kd j) k = 1 → j + of (kd j) k < 318) ∧ (rk (kd j) k = 2 → of (kd j) k < 318) := by decide +kernel
theorem cx_rf : ∀ j, j < 318 → 13 ≤ kd j → ∀ i, i < ln j → rf j i < 318 := by decide +kernel
theorem cx_M : ∀ i, i < 60 → kd (318 + i) < 12 ∧ (kd (318 + i) < 8 → ∀ k, k < nf (kd (318 + i)) → rk (kd (318 + i)) k = 0 ∨ (rk (kd (318 + i)) k = 2 ∧ 318 ≤ of (kd (318 + i)) k)) := by decide +kernel
theorem G0_lt (j k : Nat) : G0 j k < 318 := by
  unfold G0
  split
  · omega
  · split
    · split <;> omega
    · omega
section CX
variable {K : Nat → ClassId} {ad m : Nat → Nat} {u v : Nat → Int32}
theorem cx_1 {j : Nat} (hj : j < 318) : cell K ad I0 G0 (A0 u v) L0 j = cell K (adx ad m) I0 G0 (A0 u v) L0 j := by
  have h : ∀ i, i < 318 → adx ad m i = ad i := fun i hi => by unfold adx; rw [if_pos hi]
  unfold cell
  by_cases h8 : kd j < 8
  · rw [if_pos h8, if_pos h8]
    refine congrArg (fun x => Sum.inr (kd j, x)) (List.map_congr_left fun k hk => ?_)
    have hk := List.mem_range.mp hk
    obtain ⟨a, b⟩ := cx_rk j hj h8 k hk
    unfold fd
    split
    · rfl
    · split
      · rename_i r; rw [h _ (a r)]
      · split
        · rename_i r; rw [h _ (b r)]
        · rw [h _ (G0_lt _ _)]
  · rw [if_neg h8, if_neg h8]
    split
    · rfl
    · split
      · rfl
      · refine congrArg (fun f => (Sum.inl (ck K (kd j), ln j, Sum.inr (Sum.inr (Sum.inr (Sum.inr f)))) : va_E)) (funext fun x => ?_)
        split
        · rename_i h12 q12 hx
          rw [h _ (cx_rf j hj (by omega) x hx)]
        · rfl
theorem cx_2 {i : Nat} (hi : i < 60) : cell K (fun j => m (j - 318)) I0 G0 (A0 (fun _ => 0) (fun _ => 0)) L0 (318 + i) = cell K (adx ad m) I0 G0 (A0 u v) L0 (318 + i) := by
  obtain ⟨a, b⟩ := cx_M i hi
  unfold cell
  by_cases h8 : kd (318 + i) < 8
  · rw [if_pos h8, if_pos h8]
    refine congrArg (fun x => Sum.inr (kd (318 + i), x)) (List.map_congr_left fun k hk => ?_)
    have hk := List.mem_range.mp hk
    unfold fd
    rcases b h8 k hk with r | ⟨r, r2⟩
    · rw [if_pos r, if_pos r]
    · rw [r]
      show Value.ref (m (of (kd (318 + i)) k - 318)) = Value.ref (adx ad m (of (kd (318 + i)) k))
      unfold adx
      rw [if_neg (by omega)]
  · rw [if_neg h8, if_neg h8, if_pos a, if_pos a]
    have e1 : A0 u v (318 + i) = fun _ => 0 := by unfold A0; rw [if_neg (by omega), if_neg (by omega)]
    have e2 : A0 (fun _ => 0) (fun _ => 0) (318 + i) = fun _ => 0 := by unfold A0; rw [if_neg (by omega), if_neg (by omega)]
    rw [e1, e2]
theorem vw_all : (([] ++ VX K ad u v) ++ VMR K m) = VW K (adx ad m) I0 G0 (A0 u v) L0 := by
  unfold VX VMR VW
  rw [List.nil_append, show NS = 318 + 60 from rfl, List.range_add, List.map_append, List.map_map]
  refine app2 (List.map_congr_left fun j hj => ?_) (List.map_congr_left fun i hi => ?_)
  · have hj := List.mem_range.mp hj
    rw [cx_1 (m := m) hj]
    show (ad j, _) = (adx ad m j, _)
    unfold adx
    rw [if_pos hj]
  · have hi := List.mem_range.mp hi
    rw [cx_2 (ad := ad) (u := u) (v := v) hi]
    show (m i, _) = (adx ad m (318 + i), _)
    have : adx ad m (318 + i) = m i := by unfold adx; rw [if_neg (by omega), show 318 + i - 318 = i by omega]
    rw [this]
theorem vw_ap {I : Nat → Nat → Int32} {G : Nat → Nat → Nat} {A : Nat → Nat → Int32} {L : Nat → Nat → Int64} {z : Nat} (hD : va_D (fun q : Nat => z ≤ q) (VW K ad I G A L)) : apart ad (fun _ => True) ∧ ∀ j, j < NS → z ≤ ad j :=
  ⟨⟨fun i j hi hj e => hD.1 i j _ _ (VW_at hi) (VW_at hj) e, fun _ _ => trivial⟩, fun j hj => hD.2 j _ (VW_at hj)⟩
end CX
theorem ty_1 {s : State} {args : Array Value} {ty : FieldType} (h : (Cond.arrayClass ty).before args s = true) : ∃ c, s.vm.findClass ("[" ++ ty.toString) = some c ∧ ArrOfT s c ty := by
  obtain ⟨cA, kA, comp, hfind, hk, hkind⟩ := Cond.arrayClass_spec h
  exact ⟨cA, hfind, fun n z => ⟨fun k h => (by cases h), kA, hk, comp, hkind⟩⟩
theorem ty_all {s : State} {args : Array Value} (h0 : (Cond.arrayClass .int).before args s = true) (h1 : (Cond.arrayClass .byte).before args s = true) (h2 : (Cond.arrayClass .short).before args s = true) (h3 : (Cond.arrayClass .boolean).before args s = true) (h4 : (Cond.arrayClass .long).before args s = true) (h5 : (Cond.arrayOver (.object RX1)).before args s = true) (h6 : (Cond.arrayOver (.object RX2)).before args s = true) (h7 : (Cond.arrayOver (.array .int)).before args s = true) : ∃ K : Nat → ClassId, ∀ (k : Nat) (q : ClassId × FieldType), (tyA K)[k]? = some q → ArrOfT s q.1 q.2 ∧ va_RA s q.1 q.2 := by
  obtain ⟨c0, a0, b0⟩ := ty_1 h0
  obtain ⟨c1, a1, b1⟩ := ty_1 h1
  obtain ⟨c2, a2, b2⟩ := ty_1 h2
  obtain ⟨c3, a3, b3⟩ := ty_1 h3
  obtain ⟨c4, a4, b4⟩ := ty_1 h4
  obtain ⟨d5, c5, k5, f5, _, g5, i5, j5⟩ := Cond.arrayOver_spec h5
  obtain ⟨d6, c6, k6, f6, _, g6, i6, j6⟩ := Cond.arrayOver_spec h6
  obtain ⟨d7, c7, k7, f7, _, g7, i7, j7⟩ := zg_spec h7
  refine ⟨fun k => [c0, c1, c2, c3, c4, c5, c6, c7].getD k c0, fun k q hq => ?_⟩
  match k, hq with
  | 0, hq => cases hq; exact ⟨b0, a0⟩
  | 1, hq => cases hq; exact ⟨b1, a1⟩
  | 2, hq => cases hq; exact ⟨b2, a2⟩
  | 3, hq => cases hq; exact ⟨b3, a3⟩
  | 4, hq => cases hq; exact ⟨b4, a4⟩
  | 5, hq => cases hq; exact ⟨fun N z => ⟨(fun k h => by cases h), k5, g5, d5, i5⟩, k5, d5, g5, i5, f5, j5⟩
  | 6, hq => cases hq; exact ⟨fun N z => ⟨(fun k h => by cases h), k6, g6, d6, i6⟩, k6, d6, g6, i6, f6, j6⟩
  | 7, hq => cases hq; exact ⟨fun N z => ⟨(fun k h => by cases h), k7, g7, d7, i7⟩, j7⟩
  | k + 8, hq => simp [tyA] at hq
theorem Rel_up {n : Nat} {I A : Nat → Nat → Int32} {G : Nat → Nat → Nat} {L : Nat → Nat → Int64} {J R : Nat → Nat → Int32} (h : Rel n I G A L J R) : Rel (n + 1) I G A L J R := Rel_fr h (Nat.le_succ n) (fun _ _ _ => rfl) (fun _ _ _ => rfl) (fun _ _ _ => rfl) (fun _ _ _ _ => rfl) (fun _ _ _ _ => rfl) (fun _ _ _ _ => rfl) (Rel_9 h)
section R0
variable {u v : Nat → Int32}
theorem A0_z {j x : Nat} (h1 : j ≠ 18) (h2 : j ≠ 19) : A0 u v j x = 0 := by unfold A0; rw [if_neg h1, if_neg h2]
theorem I0_z {j k : Nat} (hj : 58 ≤ j) (h3 : j < 318) : I0 j k = 0 := by
  unfold I0
  rw [if_neg (by omega), if_neg (by omega), if_neg (by omega), if_neg (by omega), if_neg (by omega), if_neg (by omega), if_neg (by omega)]
  split
  · rw [if_neg (by omega), if_neg (by omega), if_neg (by omega), if_neg (by omega)]
  · rw [if_neg (by omega)]
theorem nP0 {q : Nat} (hj : 58 ≤ q) (h3 : q < 318) : nP I0 q = 0 := by unfold nP; rw [I0_z hj h3]; decide
theorem TPr_0 {p : Nat} (hp : p < 5) : TPr I0 (A0 u v) (A0 u v) p (58 + 52 * p) 0 0 := by
  refine ⟨hp, rfl, ⟨by omega, by omega, I0_z (by omega) (by omega), I0_z (by omega) (by omega), fun x hx => absurd hx (by omega), fun r hr => ?_⟩, A0_z (by omega) (by omega), A0_z (by omega) (by omega), fun m hm => by rw [A0_z (by omega) (by omega), A0_z (by omega) (by omega)], fun x k hx hk => ?_, fun r hr => ?_⟩
  · have e := nP0 (q := 58 + 52 * p + 12 + 5 * r) (by omega) (by omega)
    rw [e]
    exact ⟨by omega, I0_z (by omega) (by omega), fun i hi => absurd hi (by omega)⟩
  · rw [A0_z (by omega) (by omega), A0_z (by omega) (by omega)]
    exact ⟨rfl, by decide, by decide⟩
  · have e := nP0 (q := 58 + 52 * p + 12 + 5 * r) (by omega) (by omega)
    unfold TRl
    rw [e]
    refine ⟨⟨?_, ?_, ?_, fun k hk => ⟨?_, ?_⟩⟩, fun k hk => absurd hk (by omega), fun k hk => absurd hk (by omega), fun x hx => Or.inl ⟨A0_z (by omega) (by omega), fun k hk => absurd hk (by omega)⟩, 0, by omega, I0_z (by omega) (by omega)⟩
    · rw [A0_z (by omega) (by omega), I0_z (by omega) (by omega)]
    · rw [A0_z (by omega) (by omega), I0_z (by omega) (by omega)]
    · rw [A0_z (by omega) (by omega), I0_z (by omega) (by omega)]
    · rw [A0_z (by omega) (by omega), A0_z (by omega) (by omega)]
    · rw [A0_z (by omega) (by omega), A0_z (by omega) (by omega)]
theorem Rel_0 (hv : ∀ j, j < 6 → v j = -9) : Rel 0 I0 G0 (A0 u v) L0 I0 (A0 u v) := by
  refine ⟨0, 1, 0, ⟨by omega, rfl, rfl, fun p hp => ⟨⟨0, 0, TPr_0 hp⟩, fun x hx => ?_, fun r hr => ?_⟩⟩, ⟨⟨rfl, rfl, by omega, by omega, rfl, rfl, by omega, fun i hi => absurd hi (by omega)⟩, fun h hh => ⟨⟨?_, 0, by omega, ?_⟩, ?_, ?_, ?_⟩⟩, fun p hp => Or.inl ⟨I0_z (by omega) (by omega), A0_z (by omega) (by omega), A0_z (by omega) (by omega)⟩, ⟨34, 58, 0, 0, rfl, Or.inr rfl, rfl, ⟨0, by omega, rfl⟩, rfl, rfl, by omega, I0_z (by omega) (by omega), by omega, fun i hi => absurd hi (by omega)⟩, ⟨0, rfl, by omega, fun p hp => ⟨0, 0, I0_z (by omega) (by omega), A0_z (by omega) (by omega), by omega, by omega⟩⟩, Or.inl ⟨rfl, rfl⟩, Or.inl ⟨rfl, fun i hi => hv i hi⟩, ⟨rfl, rfl⟩, ⟨rfl, 22, rfl, Or.inl ⟨rfl, rfl⟩, Or.inl ⟨rfl, rfl⟩⟩, fun j x h => Or.inl (A0_z (by omega) (by omega))⟩
  · rw [A0_z (by omega) (by omega), A0_z (by omega) (by omega)]
  · rw [nP0 (by omega) (by omega)]
    unfold npc
    simp only [A0_z (u := u) (v := v) (j := 58 + 52 * p + 12 + 5 * r + 3) (by omega) (by omega), if_pos]
  · rw [A0_z (by omega) (by omega), A0_z (by omega) (by omega)]
  · exact A0_z (by omega) (by omega)
  · rw [A0_z (by omega) (by omega), A0_z (by omega) (by omega)]
  · rw [A0_z (by omega) (by omega), A0_z (by omega) (by omega)]
  · rw [A0_z (by omega) (by omega), A0_z (by omega) (by omega)]
end R0

/-! part b0.law_in -/
set_option maxRecDepth 20000 in
theorem in_wsL_law_r1 : ∀ w ∈ wsL_law_r1, w ∈ lw_tbl := in_seg wsL_law_r1 [(57, 2), (47, 1), (744, 2), (56, 1), (59, 7), (320, 2), (67, 2), (48, 1), (322, 2), (325, 1), (327, 3)] rfl
set_option maxRecDepth 20000 in
theorem in_wsL_law_r2 : ∀ w ∈ wsL_law_r2, w ∈ lw_tbl := in_seg wsL_law_r2 [(106, 1), (330, 1), (107, 2), (49, 1), (331, 1), (333, 5), (130, 1), (50, 1), (213, 2), (52, 1), (324, 1), (315, 1), (220, 1), (53, 1), (326, 1), (332, 1), (70, 2)] rfl
set_option maxRecDepth 20000 in
theorem in_wsL_law_r3 : ∀ w ∈ wsL_law_r3, w ∈ lw_tbl := in_seg wsL_law_r3 [(72, 2), (75, 1), (77, 1), (80, 1), (82, 1), (85, 1), (88, 1), (110, 3), (114, 1), (117, 1), (113, 1), (120, 1), (131, 4), (172, 1), (176, 1), (178, 1), (180, 1), (182, 1)] rfl
set_option maxRecDepth 20000 in
theorem in_wsL_law_r4 : ∀ w ∈ wsL_law_r4, w ∈ lw_tbl := in_seg wsL_law_r4 [(185, 1), (135, 1), (187, 1), (137, 1), (190, 1), (192, 1), (139, 1), (51, 1), (141, 4), (146, 1), (148, 1), (150, 2), (171, 1), (152, 1), (155, 1), (215, 4), (298, 1)] rfl
set_option maxRecDepth 20000 in
theorem in_wsL_law_r5 : ∀ w ∈ wsL_law_r5, w ∈ lw_tbl := in_seg wsL_law_r5 [(299, 3), (219, 1), (295, 1), (297, 1), (221, 4), (244, 1), (247, 1), (249, 1), (252, 1), (255, 1), (225, 1), (256, 1), (258, 1), (227, 2), (54, 1), (229, 1), (257, 1), (292, 1)] rfl
set_option maxRecDepth 20000 in
theorem in_wsL_law_r6 : ∀ w ∈ wsL_law_r6, w ∈ lw_tbl := in_seg wsL_law_r6 [(230, 1), (293, 1), (231, 1), (233, 1), (236, 1), (238, 1), (240, 1), (294, 1), (242, 2), (316, 3), (55, 1), (319, 1), (746, 4), (753, 5)] rfl
set_option maxRecDepth 20000 in
theorem in_wsL_law_r7 : ∀ w ∈ wsL_law_r7, w ∈ lw_tbl := in_seg wsL_law_r7 [(758, 6), (765, 3), (770, 4), (775, 3), (782, 8)] rfl
set_option maxRecDepth 20000 in
theorem in_wsL_law_r8 : ∀ w ∈ wsL_law_r8, w ∈ lw_tbl := in_seg wsL_law_r8 [(790, 8), (799, 9), (810, 4), (816, 3)] rfl
set_option maxRecDepth 20000 in
theorem in_wsL_law_r9 : ∀ w ∈ wsL_law_r9, w ∈ lw_tbl := in_seg wsL_law_r9 [(819, 10), (375, 4), (988, 4), (750, 1), (752, 1), (379, 4)] rfl
set_option maxRecDepth 20000 in
theorem in_wsL_law_r10 : ∀ w ∈ wsL_law_r10, w ∈ lw_tbl := in_seg wsL_law_r10 [(174, 1), (383, 1), (385, 1), (0, 1), (386, 9), (396, 1), (1, 1), (397, 1), (992, 5), (998, 1), (19, 1), (999, 1)] rfl
set_option maxRecDepth 20000 in
theorem in_wsL_law_r11 : ∀ w ∈ wsL_law_r11, w ∈ lw_tbl := in_seg wsL_law_r11 [(1000, 4), (1005, 1), (20, 1), (1006, 1), (764, 1), (398, 4), (410, 2), (402, 8), (412, 1), (414, 1)] rfl
set_option maxRecDepth 20000 in
theorem in_wsL_law_r12 : ∀ w ∈ wsL_law_r12, w ∈ lw_tbl := in_seg wsL_law_r12 [(2, 1), (415, 7), (423, 1), (3, 1), (424, 1), (1007, 4), (751, 1), (1015, 2), (1022, 1), (1011, 1), (1013, 1), (21, 1), (1014, 1), (1017, 1)] rfl
set_option maxRecDepth 20000 in
theorem in_wsL_law_r13 : ∀ w ∈ wsL_law_r13, w ∈ lw_tbl := in_seg wsL_law_r13 [(1019, 1), (22, 1), (1020, 2), (425, 4), (177, 1), (429, 7), (145, 1), (147, 1), (1023, 4), (436, 2)] rfl
set_option maxRecDepth 20000 in
theorem in_wsL_law_r14 : ∀ w ∈ wsL_law_r14, w ∈ lw_tbl := in_seg wsL_law_r14 [(438, 2), (191, 1), (153, 1), (440, 9), (149, 1), (449, 4), (1027, 5), (1033, 1)] rfl
set_option maxRecDepth 20000 in
theorem in_wsL_law_r15 : ∀ w ∈ wsL_law_r15, w ∈ lw_tbl := in_seg wsL_law_r15 [(23, 1), (1034, 2), (1037, 1), (24, 1), (1038, 1), (453, 8), (1039, 4), (461, 4), (74, 1), (465, 1)] rfl
set_option maxRecDepth 20000 in
theorem in_wsL_law_r16 : ∀ w ∈ wsL_law_r16, w ∈ lw_tbl := in_seg wsL_law_r16 [(466, 4), (1043, 4), (470, 4), (79, 1), (1047, 4), (474, 4), (76, 1), (81, 1), (1051, 1)] rfl
set_option maxRecDepth 20000 in
theorem in_wsL_law_r17 : ∀ w ∈ wsL_law_r17, w ∈ lw_tbl := in_seg wsL_law_r17 [(1052, 3), (768, 1), (478, 4), (1055, 4), (482, 4), (1059, 4), (769, 1), (486, 3)] rfl
set_option maxRecDepth 20000 in
theorem in_wsL_law_r18 : ∀ w ∈ wsL_law_r18, w ∈ lw_tbl := in_seg wsL_law_r18 [(489, 5), (83, 1), (234, 1), (494, 10), (173, 1), (188, 1), (504, 5)] rfl
set_option maxRecDepth 20000 in
theorem in_wsL_law_r19 : ∀ w ∈ wsL_law_r19, w ∈ lw_tbl := in_seg wsL_law_r19 [(509, 3), (527, 1), (512, 1), (514, 1), (4, 1), (515, 5), (521, 1), (5, 1), (522, 2), (525, 1), (6, 1), (526, 1), (528, 1), (530, 1), (7, 1), (531, 2)] rfl
set_option maxRecDepth 20000 in
theorem in_wsL_law_r20 : ∀ w ∈ wsL_law_r20, w ∈ lw_tbl := in_seg wsL_law_r20 [(533, 3), (537, 1), (8, 1), (538, 2), (541, 1), (9, 1), (542, 2), (545, 1), (10, 1), (546, 6), (553, 1), (11, 1), (554, 3)] rfl
set_option maxRecDepth 20000 in
theorem in_wsL_law_r21 : ∀ w ∈ wsL_law_r21, w ∈ lw_tbl := in_seg wsL_law_r21 [(557, 7), (154, 1), (564, 1), (566, 1), (12, 1), (567, 1), (121, 1), (115, 1), (118, 1), (568, 4), (78, 1), (572, 4)] rfl
set_option maxRecDepth 20000 in
theorem in_wsL_law_r22 : ∀ w ∈ wsL_law_r22, w ∈ lw_tbl := in_seg wsL_law_r22 [(576, 2), (54, 1), (578, 2), (581, 1), (13, 1), (582, 1), (250, 1), (253, 1), (86, 1), (239, 1), (583, 5), (589, 1), (14, 1), (590, 1), (89, 1), (591, 3)] rfl
set_option maxRecDepth 20000 in
theorem in_wsL_law_r23 : ∀ w ∈ wsL_law_r23, w ∈ lw_tbl := in_seg wsL_law_r23 [(594, 1), (599, 1), (183, 1), (595, 4), (175, 1), (600, 8), (611, 1), (608, 3), (612, 1), (614, 1), (15, 1), (615, 1)] rfl
set_option maxRecDepth 20000 in
theorem in_wsL_law_r24 : ∀ w ∈ wsL_law_r24, w ∈ lw_tbl := in_seg wsL_law_r24 [(616, 9), (626, 1), (16, 1), (627, 3), (631, 1), (17, 1), (632, 1), (193, 1), (181, 1), (296, 1), (633, 4)] rfl
set_option maxRecDepth 20000 in
theorem in_wsL_law_r25 : ∀ w ∈ wsL_law_r25, w ∈ lw_tbl := in_seg wsL_law_r25 [(245, 1), (637, 6), (1063, 4), (774, 1), (778, 2), (1067, 1), (1069, 1), (25, 1), (1070, 1), (780, 2), (1071, 1), (1073, 1), (26, 1), (1074, 1)] rfl
set_option maxRecDepth 20000 in
theorem in_wsL_law_r26 : ∀ w ∈ wsL_law_r26, w ∈ lw_tbl := in_seg wsL_law_r26 [(814, 2), (1075, 1), (1077, 1), (27, 1), (1078, 2), (1081, 1), (28, 1), (1082, 2), (1085, 1), (29, 1), (1086, 2), (1089, 1), (30, 1), (1090, 2), (1093, 1), (31, 1), (1094, 2), (1097, 1)] rfl
set_option maxRecDepth 20000 in
theorem in_wsL_law_r27 : ∀ w ∈ wsL_law_r27, w ∈ lw_tbl := in_seg wsL_law_r27 [(32, 1), (1098, 2), (1101, 1), (33, 1), (1102, 2), (1105, 1), (34, 1), (1106, 2), (1109, 1), (35, 1), (1110, 2), (1113, 1), (36, 1), (1114, 2), (1117, 1), (37, 1), (1118, 1), (798, 1), (1119, 1)] rfl
set_option maxRecDepth 20000 in
theorem in_wsL_law_r28 : ∀ w ∈ wsL_law_r28, w ∈ lw_tbl := in_seg wsL_law_r28 [(1121, 1), (38, 1), (1122, 2), (1125, 1), (39, 1), (1126, 2), (1129, 1), (40, 1), (1130, 2), (1133, 1), (41, 1), (1134, 2), (1137, 1), (42, 1), (1138, 2), (1141, 1), (43, 1), (1142, 2)] rfl
set_option maxRecDepth 20000 in
theorem in_wsL_law_r29 : ∀ w ∈ wsL_law_r29, w ∈ lw_tbl := in_seg wsL_law_r29 [(1145, 1), (44, 1), (1146, 1), (643, 4), (1147, 4), (647, 4), (1151, 4), (651, 4), (1155, 1)] rfl
set_option maxRecDepth 20000 in
theorem in_wsL_law_r30 : ∀ w ∈ wsL_law_r30, w ∈ lw_tbl := in_seg wsL_law_r30 [(1156, 3), (655, 4), (254, 1), (246, 1), (232, 1), (241, 1), (659, 6), (1159, 4), (665, 3)] rfl
set_option maxRecDepth 20000 in
theorem in_wsL_law_r31 : ∀ w ∈ wsL_law_r31, w ∈ lw_tbl := in_seg wsL_law_r31 [(668, 1), (235, 1), (237, 1), (669, 4), (1163, 4), (673, 4), (84, 1), (87, 1), (90, 1), (1167, 4), (677, 2)] rfl
set_option maxRecDepth 20000 in
theorem in_wsL_law_r32 : ∀ w ∈ wsL_law_r32, w ∈ lw_tbl := in_seg wsL_law_r32 [(679, 2), (179, 1), (1171, 4), (808, 2), (681, 4), (1175, 4), (685, 4), (184, 1), (116, 1), (122, 1)] rfl
set_option maxRecDepth 20000 in
theorem in_wsL_law_r33 : ∀ w ∈ wsL_law_r33, w ∈ lw_tbl := in_seg wsL_law_r33 [(119, 1), (689, 10), (1179, 4), (699, 5), (710, 1), (704, 3)] rfl
set_option maxRecDepth 20000 in
theorem in_wsL_law_r34 : ∀ w ∈ wsL_law_r34, w ∈ lw_tbl := in_seg wsL_law_r34 [(707, 3), (1183, 5), (1198, 1), (1188, 1), (1190, 1), (45, 1), (1191, 7), (711, 4), (1199, 1)] rfl
set_option maxRecDepth 20000 in
theorem in_wsL_law_r35 : ∀ w ∈ wsL_law_r35, w ∈ lw_tbl := in_seg wsL_law_r35 [(1200, 3), (715, 6), (722, 1), (18, 1), (723, 1), (1203, 4), (724, 4), (248, 1), (251, 1), (1207, 2)] rfl
set_option maxRecDepth 20000 in
theorem in_wsL_law_r36 : ∀ w ∈ wsL_law_r36, w ∈ lw_tbl := in_seg wsL_law_r36 [(1209, 2), (728, 4), (186, 1), (732, 4), (1211, 4), (736, 4), (189, 1), (1215, 4)] rfl
set_option maxRecDepth 20000 in
theorem in_wsL_law_r37 : ∀ w ∈ wsL_law_r37, w ∈ lw_tbl := in_seg wsL_law_r37 [(740, 4), (1219, 4)] rfl
set_option maxRecDepth 20000 in
theorem in_wsX60 : ∀ w ∈ wsX60, w ∈ lw_tbl := in_seg wsX60 [(338, 1), (340, 1), (342, 1), (344, 1), (346, 1), (348, 1), (350, 1), (352, 1), (354, 1), (356, 1), (358, 1), (360, 1), (362, 1), (364, 1), (366, 1), (368, 1), (370, 1), (372, 1)] rfl
set_option maxRecDepth 20000 in
theorem in_wsX70 : ∀ w ∈ wsX70, w ∈ lw_tbl := in_seg wsX70 [(829, 1), (831, 1), (833, 1), (835, 1), (837, 1), (839, 1), (841, 1), (843, 1), (845, 1), (847, 1), (849, 1), (851, 1), (853, 1), (855, 1), (857, 1), (859, 1), (861, 1), (863, 1), (865, 1), (867, 1), (869, 1), (871, 1), (873, 1), (875, 1), (877, 1), (879, 1), (881, 1), (883, 1), (885, 1), (887, 1), (889, 1), (891, 1), (893, 1), (895, 1), (897, 1), (899, 1), (901, 1), (903, 1), (905, 1), (907, 1), (909, 1), (911, 1), (913, 1), (915, 1), (917, 1), (919, 1), (921, 1), (923, 1), (925, 1), (927, 1), (929, 1), (931, 1), (933, 1), (935, 1), (937, 1), (939, 1), (941, 1), (943, 1), (945, 1), (947, 1), (949, 1), (951, 1), (953, 1), (955, 1), (957, 1), (959, 1), (961, 1), (963, 1), (965, 1), (967, 1), (969, 1), (971, 1), (973, 1), (975, 1), (977, 1), (979, 1), (981, 1), (983, 1), (985, 1)] rfl
set_option maxRecDepth 20000 in
theorem in_wsX40 : ∀ w ∈ wsX40, w ∈ lw_tbl := in_seg wsX40 [(91, 1), (93, 1), (95, 1), (97, 1), (99, 1), (101, 1), (103, 1)] rfl
set_option maxRecDepth 20000 in
theorem in_wsX00 : ∀ w ∈ wsX00, w ∈ lw_tbl := in_seg wsX00 [(123, 1), (125, 1), (127, 1)] rfl
set_option maxRecDepth 20000 in
theorem in_wsX10 : ∀ w ∈ wsX10, w ∈ lw_tbl := in_seg wsX10 [(194, 1), (196, 1), (198, 1), (200, 1), (202, 1), (204, 1), (206, 1), (208, 1), (210, 1)] rfl
set_option maxRecDepth 20000 in
theorem in_wsX30 : ∀ w ∈ wsX30, w ∈ lw_tbl := in_seg wsX30 [(302, 1), (304, 1), (306, 1), (308, 1), (310, 1), (312, 1)] rfl
set_option maxRecDepth 20000 in
theorem in_wsX50 : ∀ w ∈ wsX50, w ∈ lw_tbl := in_seg wsX50 [(259, 1), (261, 1), (263, 1), (265, 1), (267, 1), (269, 1), (271, 1), (273, 1), (275, 1), (277, 1), (279, 1), (281, 1), (283, 1), (285, 1), (287, 1), (289, 1)] rfl
set_option maxRecDepth 20000 in
theorem in_wsX20 : ∀ w ∈ wsX20, w ∈ lw_tbl := in_seg wsX20 [(156, 1), (158, 1), (160, 1), (162, 1), (164, 1), (166, 1), (168, 1)] rfl






theorem wsL_law_in : ∀ w ∈ wsL_law, w ∈ lw_tbl := by
  unfold wsL_law
  exact List.forall_mem_append.mpr ⟨List.forall_mem_append.mpr ⟨List.forall_mem_append.mpr ⟨List.forall_mem_append.mpr ⟨List.forall_mem_append.mpr ⟨List.forall_mem_append.mpr ⟨List.forall_mem_append.mpr ⟨List.forall_mem_append.mpr ⟨List.forall_mem_append.mpr ⟨List.forall_mem_append.mpr ⟨in_wsL_law_r1, List.forall_mem_append.mpr ⟨in_wsL_law_r2, List.forall_mem_append.mpr ⟨in_wsL_law_r3, List.forall_mem_append.mpr ⟨in_wsL_law_r4, List.forall_mem_append.mpr ⟨in_wsL_law_r5, List.forall_mem_append.mpr ⟨in_wsL_law_r6, List.forall_mem_append.mpr ⟨in_wsL_law_r7, List.forall_mem_append.mpr ⟨in_wsL_law_r8, List.forall_mem_append.mpr ⟨in_wsL_law_r9, List.forall_mem_append.mpr ⟨in_wsL_law_r10, List.forall_mem_append.mpr ⟨in_wsL_law_r11, List.forall_mem_append.mpr ⟨in_wsL_law_r12, List.forall_mem_append.mpr ⟨in_wsL_law_r13, List.forall_mem_append.mpr ⟨in_wsL_law_r14, List.forall_mem_append.mpr ⟨in_wsL_law_r15, List.forall_mem_append.mpr ⟨in_wsL_law_r16, List.forall_mem_append.mpr ⟨in_wsL_law_r17, List.forall_mem_append.mpr ⟨in_wsL_law_r18, List.forall_mem_append.mpr ⟨in_wsL_law_r19, List.forall_mem_append.mpr ⟨in_wsL_law_r20, List.forall_mem_append.mpr ⟨in_wsL_law_r21, List.forall_mem_append.mpr ⟨in_wsL_law_r22, List.forall_mem_append.mpr ⟨in_wsL_law_r23, List.forall_mem_append.mpr ⟨in_wsL_law_r24, List.forall_mem_append.mpr ⟨in_wsL_law_r25, List.forall_mem_append.mpr ⟨in_wsL_law_r26, List.forall_mem_append.mpr ⟨in_wsL_law_r27, List.forall_mem_append.mpr ⟨in_wsL_law_r28, List.forall_mem_append.mpr ⟨in_wsL_law_r29, List.forall_mem_append.mpr ⟨in_wsL_law_r30, List.forall_mem_append.mpr ⟨in_wsL_law_r31, List.forall_mem_append.mpr ⟨in_wsL_law_r32, List.forall_mem_append.mpr ⟨in_wsL_law_r33, List.forall_mem_append.mpr ⟨in_wsL_law_r34, List.forall_mem_append.mpr ⟨in_wsL_law_r35, List.forall_mem_append.mpr ⟨in_wsL_law_r36, in_wsL_law_r37⟩⟩⟩⟩⟩⟩⟩⟩⟩⟩⟩⟩⟩⟩⟩⟩⟩⟩⟩⟩⟩⟩⟩⟩⟩⟩⟩⟩⟩⟩⟩⟩⟩⟩⟩⟩, in_wsX60⟩, in_wsX70⟩, in_wsX40⟩, in_wsX00⟩, in_wsX10⟩, in_wsX30⟩, in_wsX50⟩, in_wsX20⟩, fun _ h => absurd h List.not_mem_nil⟩
theorem inlX0 : ∀ w ∈ wsX00, w ∈ wsL_law := fun _ h => List.mem_append_left _ (List.mem_append_left _ (List.mem_append_left _ (List.mem_append_left _ (List.mem_append_left _ (List.mem_append_right _ h)))))
theorem inX0 : ∀ w ∈ wsX00, w ∈ lw_tbl := fun w h => wsL_law_in w (inlX0 w h)
theorem inlX1 : ∀ w ∈ wsX10, w ∈ wsL_law := fun _ h => List.mem_append_left _ (List.mem_append_left _ (List.mem_append_left _ (List.mem_append_left _ (List.mem_append_right _ h))))
theorem inX1 : ∀ w ∈ wsX10, w ∈ lw_tbl := fun w h => wsL_law_in w (inlX1 w h)
theorem inlX2 : ∀ w ∈ wsX20, w ∈ wsL_law := fun _ h => List.mem_append_left _ (List.mem_append_right _ h)
theorem inX2 : ∀ w ∈ wsX20, w ∈ lw_tbl := fun w h => wsL_law_in w (inlX2 w h)
theorem inlX3 : ∀ w ∈ wsX30, w ∈ wsL_law := fun _ h => List.mem_append_left _ (List.mem_append_left _ (List.mem_append_left _ (List.mem_append_right _ h)))
theorem inX3 : ∀ w ∈ wsX30, w ∈ lw_tbl := fun w h => wsL_law_in w (inlX3 w h)
theorem inlX4 : ∀ w ∈ wsX40, w ∈ wsL_law := fun _ h => List.mem_append_left _ (List.mem_append_left _ (List.mem_append_left _ (List.mem_append_left _ (List.mem_append_left _ (List.mem_append_left _ (List.mem_append_right _ h))))))
theorem inX4 : ∀ w ∈ wsX40, w ∈ lw_tbl := fun w h => wsL_law_in w (inlX4 w h)
theorem inlX5 : ∀ w ∈ wsX50, w ∈ wsL_law := fun _ h => List.mem_append_left _ (List.mem_append_left _ (List.mem_append_right _ h))
theorem inX5 : ∀ w ∈ wsX50, w ∈ lw_tbl := fun w h => wsL_law_in w (inlX5 w h)
theorem inlX6 : ∀ w ∈ wsX60, w ∈ wsL_law := fun _ h => List.mem_append_left _ (List.mem_append_left _ (List.mem_append_left _ (List.mem_append_left _ (List.mem_append_left _ (List.mem_append_left _ (List.mem_append_left _ (List.mem_append_left _ (List.mem_append_right _ h))))))))
theorem inX6 : ∀ w ∈ wsX60, w ∈ lw_tbl := fun w h => wsL_law_in w (inlX6 w h)
theorem inlX7 : ∀ w ∈ wsX70, w ∈ wsL_law := fun _ h => List.mem_append_left _ (List.mem_append_left _ (List.mem_append_left _ (List.mem_append_left _ (List.mem_append_left _ (List.mem_append_left _ (List.mem_append_left _ (List.mem_append_right _ h)))))))
theorem inX7 : ∀ w ∈ wsX70, w ∈ lw_tbl := fun w h => wsL_law_in w (inlX7 w h)

/-! part b0.zrows -/
theorem goodIn_w {big own blk : List Cond} {c : Cond} (h1 : GoodIn big (c :: own)) (h2 : GoodIn big blk) : GoodIn big (c :: (own ++ blk)) := fun w hw => by
  rcases List.mem_cons.mp hw with e | e
  · exact h1 w (List.mem_cons.mpr (Or.inl e))
  · rcases List.mem_append.mp e with e | e
    · exact h1 w (List.mem_cons.mpr (Or.inr e))
    · exact h2 w e
theorem goodIn_b {big blk : List Cond} (hb : ∀ w ∈ blk, w ∈ big) (h : blk.all goodWord = true) : GoodIn big blk := fun w hw => ⟨hb w hw, good_of_word (List.all_eq_true.mp h w hw)⟩
theorem goodIn_pc {big : List Cond} {P : Nat → List Cond} (hP : ∀ k w, w ∈ P k → w ∈ big) (ws : List Cond) (sg : List (Nat × Nat × Nat)) (hp : ws = sg.flatMap (fun q => ((P q.1).drop q.2.1).take q.2.2)) (h : ws.all goodWord = true) : GoodIn big ws := by
  intro w hw
  refine ⟨?_, good_of_word (List.all_eq_true.mp h w hw)⟩
  rw [hp] at hw
  obtain ⟨q, -, hq⟩ := List.mem_flatMap.mp hw
  exact hP _ w (List.mem_of_mem_drop (List.mem_of_mem_take hq))
def pcL : Nat → List Cond := fun k => match k with
  | 0 => wsL_law_r1
  | 1 => wsL_law_r2
  | 2 => wsL_law_r3
  | 3 => wsL_law_r4
  | 4 => wsL_law_r5
  | 5 => wsL_law_r6
  | 6 => wsL_law_r7
  | 7 => wsL_law_r8
  | 8 => wsL_law_r9
  | 9 => wsL_law_r10
  | 10 => wsL_law_r11
  | 11 => wsL_law_r12
  | 12 => wsL_law_r13
  | 13 => wsL_law_r14
  | 14 => wsL_law_r15
  | 15 => wsL_law_r16
  | 16 => wsL_law_r17
  | 17 => wsL_law_r18
  | 18 => wsL_law_r19
  | 19 => wsL_law_r20
  | 20 => wsL_law_r21
  | 21 => wsL_law_r22
  | 22 => wsL_law_r23
  | 23 => wsL_law_r24
  | 24 => wsL_law_r25
  | 25 => wsL_law_r26
  | 26 => wsL_law_r27
  | 27 => wsL_law_r28
  | 28 => wsL_law_r29
  | 29 => wsL_law_r30
  | 30 => wsL_law_r31
  | 31 => wsL_law_r32
  | 32 => wsL_law_r33
  | 33 => wsL_law_r34
  | 34 => wsL_law_r35
  | 35 => wsL_law_r36
  | 36 => wsL_law_r37
  | _ => []
theorem pcL_in : ∀ k w, w ∈ pcL k → w ∈ wsL_law := fun k w h => by
  unfold wsL_law
  refine List.mem_append_left _ (List.mem_append_left _ (List.mem_append_left _ (List.mem_append_left _ (List.mem_append_left _ (List.mem_append_left _ (List.mem_append_left _ (List.mem_append_left _ (List.mem_append_left _ (?_)))))))))
  match k, h with
  | 0, h => exact List.mem_append_left _ h
  | 1, h => exact List.mem_append_right _ (List.mem_append_left _ h)
  | 2, h => exact List.mem_append_right _ (List.mem_append_right _ (List.mem_append_left _ h))
  | 3, h => exact List.mem_append_right _ (List.mem_append_right _ (List.mem_append_right _ (List.mem_append_left _ h)))
  | 4, h => exact List.mem_append_right _ (List.mem_append_right _ (List.mem_append_right _ (List.mem_append_right _ (List.mem_append_left _ h))))
  | 5, h => exact List.mem_append_right _ (List.mem_append_right _ (List.mem_append_right _ (List.mem_append_right _ (List.mem_append_right _ (List.mem_append_left _ h)))))
  | 6, h => exact List.mem_append_right _ (List.mem_append_right _ (List.mem_append_right _ (List.mem_append_right _ (List.mem_append_right _ (List.mem_append_right _ (List.mem_append_left _ h))))))
  | 7, h => exact List.mem_append_right _ (List.mem_append_right _ (List.mem_append_right _ (List.mem_append_right _ (List.mem_append_right _ (List.mem_append_right _ (List.mem_append_right _ (List.mem_append_left _ h)))))))
  | 8, h => exact List.mem_append_right _ (List.mem_append_right _ (List.mem_append_right _ (List.mem_append_right _ (List.mem_append_right _ (List.mem_append_right _ (List.mem_append_right _ (List.mem_append_right _ (List.mem_append_left _ h))))))))
  | 9, h => exact List.mem_append_right _ (List.mem_append_right _ (List.mem_append_right _ (List.mem_append_right _ (List.mem_append_right _ (List.mem_append_right _ (List.mem_append_right _ (List.mem_append_right _ (List.mem_append_right _ (List.mem_append_left _ h)))))))))
  | 10, h => exact List.mem_append_right _ (List.mem_append_right _ (List.mem_append_right _ (List.mem_append_right _ (List.mem_append_right _ (List.mem_append_right _ (List.mem_append_right _ (List.mem_append_right _ (List.mem_append_right _ (List.mem_append_right _ (List.mem_append_left _ h))))))))))
  | 11, h => exact List.mem_append_right _ (List.mem_append_right _ (List.mem_append_right _ (List.mem_append_right _ (List.mem_append_right _ (List.mem_append_right _ (List.mem_append_right _ (List.mem_append_right _ (List.mem_append_right _ (List.mem_append_right _ (List.mem_append_right _ (List.mem_append_left _ h)))))))))))
  | 12, h => exact List.mem_append_right _ (List.mem_append_right _ (List.mem_append_right _ (List.mem_append_right _ (List.mem_append_right _ (List.mem_append_right _ (List.mem_append_right _ (List.mem_append_right _ (List.mem_append_right _ (List.mem_append_right _ (List.mem_append_right _ (List.mem_append_right _ (List.mem_append_left _ h))))))))))))
  | 13, h => exact List.mem_append_right _ (List.mem_append_right _ (List.mem_append_right _ (List.mem_append_right _ (List.mem_append_right _ (List.mem_append_right _ (List.mem_append_right _ (List.mem_append_right _ (List.mem_append_right _ (List.mem_append_right _ (List.mem_append_right _ (List.mem_append_right _ (List.mem_append_right _ (List.mem_append_left _ h)))))))))))))
  | 14, h => exact List.mem_append_right _ (List.mem_append_right _ (List.mem_append_right _ (List.mem_append_right _ (List.mem_append_right _ (List.mem_append_right _ (List.mem_append_right _ (List.mem_append_right _ (List.mem_append_right _ (List.mem_append_right _ (List.mem_append_right _ (List.mem_append_right _ (List.mem_append_right _ (List.mem_append_right _ (List.mem_append_left _ h))))))))))))))
  | 15, h => exact List.mem_append_right _ (List.mem_append_right _ (List.mem_append_right _ (List.mem_append_right _ (List.mem_append_right _ (List.mem_append_right _ (List.mem_append_right _ (List.mem_append_right _ (List.mem_append_right _ (List.mem_append_right _ (List.mem_append_right _ (List.mem_append_right _ (List.mem_append_right _ (List.mem_append_right _ (List.mem_append_right _ (List.mem_append_left _ h)))))))))))))))
  | 16, h => exact List.mem_append_right _ (List.mem_append_right _ (List.mem_append_right _ (List.mem_append_right _ (List.mem_append_right _ (List.mem_append_right _ (List.mem_append_right _ (List.mem_append_right _ (List.mem_append_right _ (List.mem_append_right _ (List.mem_append_right _ (List.mem_append_right _ (List.mem_append_right _ (List.mem_append_right _ (List.mem_append_right _ (List.mem_append_right _ (List.mem_append_left _ h))))))))))))))))
  | 17, h => exact List.mem_append_right _ (List.mem_append_right _ (List.mem_append_right _ (List.mem_append_right _ (List.mem_append_right _ (List.mem_append_right _ (List.mem_append_right _ (List.mem_append_right _ (List.mem_append_right _ (List.mem_append_right _ (List.mem_append_right _ (List.mem_append_right _ (List.mem_append_right _ (List.mem_append_right _ (List.mem_append_right _ (List.mem_append_right _ (List.mem_append_right _ (List.mem_append_left _ h)))))))))))))))))
  | 18, h => exact List.mem_append_right _ (List.mem_append_right _ (List.mem_append_right _ (List.mem_append_right _ (List.mem_append_right _ (List.mem_append_right _ (List.mem_append_right _ (List.mem_append_right _ (List.mem_append_right _ (List.mem_append_right _ (List.mem_append_right _ (List.mem_append_right _ (List.mem_append_right _ (List.mem_append_right _ (List.mem_append_right _ (List.mem_append_right _ (List.mem_append_right _ (List.mem_append_right _ (List.mem_append_left _ h))))))))))))))))))
  | 19, h => exact List.mem_append_right _ (List.mem_append_right _ (List.mem_append_right _ (List.mem_append_right _ (List.mem_append_right _ (List.mem_append_right _ (List.mem_append_right _ (List.mem_append_right _ (List.mem_append_right _ (List.mem_append_right _ (List.mem_append_right _ (List.mem_append_right _ (List.mem_append_right _ (List.mem_append_right _ (List.mem_append_right _ (List.mem_append_right _ (List.mem_append_right _ (List.mem_append_right _ (List.mem_append_right _ (List.mem_append_left _ h)))))))))))))))))))
  | 20, h => exact List.mem_append_right _ (List.mem_append_right _ (List.mem_append_right _ (List.mem_append_right _ (List.mem_append_right _ (List.mem_append_right _ (List.mem_append_right _ (List.mem_append_right _ (List.mem_append_right _ (List.mem_append_right _ (List.mem_append_right _ (List.mem_append_right _ (List.mem_append_right _ (List.mem_append_right _ (List.mem_append_right _ (List.mem_append_right _ (List.mem_append_right _ (List.mem_append_right _ (List.mem_append_right _ (List.mem_append_right _ (List.mem_append_left _ h))))))))))))))))))))
  | 21, h => exact List.mem_append_right _ (List.mem_append_right _ (List.mem_append_right _ (List.mem_append_right _ (List.mem_append_right _ (List.mem_append_right _ (List.mem_append_right _ (List.mem_append_right _ (List.mem_append_right _ (List.mem_append_right _ (List.mem_append_right _ (List.mem_append_right _ (List.mem_append_right _ (List.mem_append_right _ (List.mem_append_right _ (List.mem_append_right _ (List.mem_append_right _ (List.mem_append_right _ (List.mem_append_right _ (List.mem_append_right _ (List.mem_append_right _ (List.mem_append_left _ h)))))))))))))))))))))
  | 22, h => exact List.mem_append_right _ (List.mem_append_right _ (List.mem_append_right _ (List.mem_append_right _ (List.mem_append_right _ (List.mem_append_right _ (List.mem_append_right _ (List.mem_append_right _ (List.mem_append_right _ (List.mem_append_right _ (List.mem_append_right _ (List.mem_append_right _ (List.mem_append_right _ (List.mem_append_right _ (List.mem_append_right _ (List.mem_append_right _ (List.mem_append_right _ (List.mem_append_right _ (List.mem_append_right _ (List.mem_append_right _ (List.mem_append_right _ (List.mem_append_right _ (List.mem_append_left _ h))))))))))))))))))))))
  | 23, h => exact List.mem_append_right _ (List.mem_append_right _ (List.mem_append_right _ (List.mem_append_right _ (List.mem_append_right _ (List.mem_append_right _ (List.mem_append_right _ (List.mem_append_right _ (List.mem_append_right _ (List.mem_append_right _ (List.mem_append_right _ (List.mem_append_right _ (List.mem_append_right _ (List.mem_append_right _ (List.mem_append_right _ (List.mem_append_right _ (List.mem_append_right _ (List.mem_append_right _ (List.mem_append_right _ (List.mem_append_right _ (List.mem_append_right _ (List.mem_append_right _ (List.mem_append_right _ (List.mem_append_left _ h)))))))))))))))))))))))
  | 24, h => exact List.mem_append_right _ (List.mem_append_right _ (List.mem_append_right _ (List.mem_append_right _ (List.mem_append_right _ (List.mem_append_right _ (List.mem_append_right _ (List.mem_append_right _ (List.mem_append_right _ (List.mem_append_right _ (List.mem_append_right _ (List.mem_append_right _ (List.mem_append_right _ (List.mem_append_right _ (List.mem_append_right _ (List.mem_append_right _ (List.mem_append_right _ (List.mem_append_right _ (List.mem_append_right _ (List.mem_append_right _ (List.mem_append_right _ (List.mem_append_right _ (List.mem_append_right _ (List.mem_append_right _ (List.mem_append_left _ h))))))))))))))))))))))))
  | 25, h => exact List.mem_append_right _ (List.mem_append_right _ (List.mem_append_right _ (List.mem_append_right _ (List.mem_append_right _ (List.mem_append_right _ (List.mem_append_right _ (List.mem_append_right _ (List.mem_append_right _ (List.mem_append_right _ (List.mem_append_right _ (List.mem_append_right _ (List.mem_append_right _ (List.mem_append_right _ (List.mem_append_right _ (List.mem_append_right _ (List.mem_append_right _ (List.mem_append_right _ (List.mem_append_right _ (List.mem_append_right _ (List.mem_append_right _ (List.mem_append_right _ (List.mem_append_right _ (List.mem_append_right _ (List.mem_append_right _ (List.mem_append_left _ h)))))))))))))))))))))))))
  | 26, h => exact List.mem_append_right _ (List.mem_append_right _ (List.mem_append_right _ (List.mem_append_right _ (List.mem_append_right _ (List.mem_append_right _ (List.mem_append_right _ (List.mem_append_right _ (List.mem_append_right _ (List.mem_append_right _ (List.mem_append_right _ (List.mem_append_right _ (List.mem_append_right _ (List.mem_append_right _ (List.mem_append_right _ (List.mem_append_right _ (List.mem_append_right _ (List.mem_append_right _ (List.mem_append_right _ (List.mem_append_right _ (List.mem_append_right _ (List.mem_append_right _ (List.mem_append_right _ (List.mem_append_right _ (List.mem_append_right _ (List.mem_append_right _ (List.mem_append_left _ h))))))))))))))))))))))))))
  | 27, h => exact List.mem_append_right _ (List.mem_append_right _ (List.mem_append_right _ (List.mem_append_right _ (List.mem_append_right _ (List.mem_append_right _ (List.mem_append_right _ (List.mem_append_right _ (List.mem_append_right _ (List.mem_append_right _ (List.mem_append_right _ (List.mem_append_right _ (List.mem_append_right _ (List.mem_append_right _ (List.mem_append_right _ (List.mem_append_right _ (List.mem_append_right _ (List.mem_append_right _ (List.mem_append_right _ (List.mem_append_right _ (List.mem_append_right _ (List.mem_append_right _ (List.mem_append_right _ (List.mem_append_right _ (List.mem_append_right _ (List.mem_append_right _ (List.mem_append_right _ (List.mem_append_left _ h)))))))))))))))))))))))))))
  | 28, h => exact List.mem_append_right _ (List.mem_append_right _ (List.mem_append_right _ (List.mem_append_right _ (List.mem_append_right _ (List.mem_append_right _ (List.mem_append_right _ (List.mem_append_right _ (List.mem_append_right _ (List.mem_append_right _ (List.mem_append_right _ (List.mem_append_right _ (List.mem_append_right _ (List.mem_append_right _ (List.mem_append_right _ (List.mem_append_right _ (List.mem_append_right _ (List.mem_append_right _ (List.mem_append_right _ (List.mem_append_right _ (List.mem_append_right _ (List.mem_append_right _ (List.mem_append_right _ (List.mem_append_right _ (List.mem_append_right _ (List.mem_append_right _ (List.mem_append_right _ (List.mem_append_right _ (List.mem_append_left _ h))))))))))))))))))))))))))))
  | 29, h => exact List.mem_append_right _ (List.mem_append_right _ (List.mem_append_right _ (List.mem_append_right _ (List.mem_append_right _ (List.mem_append_right _ (List.mem_append_right _ (List.mem_append_right _ (List.mem_append_right _ (List.mem_append_right _ (List.mem_append_right _ (List.mem_append_right _ (List.mem_append_right _ (List.mem_append_right _ (List.mem_append_right _ (List.mem_append_right _ (List.mem_append_right _ (List.mem_append_right _ (List.mem_append_right _ (List.mem_append_right _ (List.mem_append_right _ (List.mem_append_right _ (List.mem_append_right _ (List.mem_append_right _ (List.mem_append_right _ (List.mem_append_right _ (List.mem_append_right _ (List.mem_append_right _ (List.mem_append_right _ (List.mem_append_left _ h)))))))))))))))))))))))))))))
  | 30, h => exact List.mem_append_right _ (List.mem_append_right _ (List.mem_append_right _ (List.mem_append_right _ (List.mem_append_right _ (List.mem_append_right _ (List.mem_append_right _ (List.mem_append_right _ (List.mem_append_right _ (List.mem_append_right _ (List.mem_append_right _ (List.mem_append_right _ (List.mem_append_right _ (List.mem_append_right _ (List.mem_append_right _ (List.mem_append_right _ (List.mem_append_right _ (List.mem_append_right _ (List.mem_append_right _ (List.mem_append_right _ (List.mem_append_right _ (List.mem_append_right _ (List.mem_append_right _ (List.mem_append_right _ (List.mem_append_right _ (List.mem_append_right _ (List.mem_append_right _ (List.mem_append_right _ (List.mem_append_right _ (List.mem_append_right _ (List.mem_append_left _ h))))))))))))))))))))))))))))))
  | 31, h => exact List.mem_append_right _ (List.mem_append_right _ (List.mem_append_right _ (List.mem_append_right _ (List.mem_append_right _ (List.mem_append_right _ (List.mem_append_right _ (List.mem_append_right _ (List.mem_append_right _ (List.mem_append_right _ (List.mem_append_right _ (List.mem_append_right _ (List.mem_append_right _ (List.mem_append_right _ (List.mem_append_right _ (List.mem_append_right _ (List.mem_append_right _ (List.mem_append_right _ (List.mem_append_right _ (List.mem_append_right _ (List.mem_append_right _ (List.mem_append_right _ (List.mem_append_right _ (List.mem_append_right _ (List.mem_append_right _ (List.mem_append_right _ (List.mem_append_right _ (List.mem_append_right _ (List.mem_append_right _ (List.mem_append_right _ (List.mem_append_right _ (List.mem_append_left _ h)))))))))))))))))))))))))))))))
  | 32, h => exact List.mem_append_right _ (List.mem_append_right _ (List.mem_append_right _ (List.mem_append_right _ (List.mem_append_right _ (List.mem_append_right _ (List.mem_append_right _ (List.mem_append_right _ (List.mem_append_right _ (List.mem_append_right _ (List.mem_append_right _ (List.mem_append_right _ (List.mem_append_right _ (List.mem_append_right _ (List.mem_append_right _ (List.mem_append_right _ (List.mem_append_right _ (List.mem_append_right _ (List.mem_append_right _ (List.mem_append_right _ (List.mem_append_right _ (List.mem_append_right _ (List.mem_append_right _ (List.mem_append_right _ (List.mem_append_right _ (List.mem_append_right _ (List.mem_append_right _ (List.mem_append_right _ (List.mem_append_right _ (List.mem_append_right _ (List.mem_append_right _ (List.mem_append_right _ (List.mem_append_left _ h))))))))))))))))))))))))))))))))
  | 33, h => exact List.mem_append_right _ (List.mem_append_right _ (List.mem_append_right _ (List.mem_append_right _ (List.mem_append_right _ (List.mem_append_right _ (List.mem_append_right _ (List.mem_append_right _ (List.mem_append_right _ (List.mem_append_right _ (List.mem_append_right _ (List.mem_append_right _ (List.mem_append_right _ (List.mem_append_right _ (List.mem_append_right _ (List.mem_append_right _ (List.mem_append_right _ (List.mem_append_right _ (List.mem_append_right _ (List.mem_append_right _ (List.mem_append_right _ (List.mem_append_right _ (List.mem_append_right _ (List.mem_append_right _ (List.mem_append_right _ (List.mem_append_right _ (List.mem_append_right _ (List.mem_append_right _ (List.mem_append_right _ (List.mem_append_right _ (List.mem_append_right _ (List.mem_append_right _ (List.mem_append_right _ (List.mem_append_left _ h)))))))))))))))))))))))))))))))))
  | 34, h => exact List.mem_append_right _ (List.mem_append_right _ (List.mem_append_right _ (List.mem_append_right _ (List.mem_append_right _ (List.mem_append_right _ (List.mem_append_right _ (List.mem_append_right _ (List.mem_append_right _ (List.mem_append_right _ (List.mem_append_right _ (List.mem_append_right _ (List.mem_append_right _ (List.mem_append_right _ (List.mem_append_right _ (List.mem_append_right _ (List.mem_append_right _ (List.mem_append_right _ (List.mem_append_right _ (List.mem_append_right _ (List.mem_append_right _ (List.mem_append_right _ (List.mem_append_right _ (List.mem_append_right _ (List.mem_append_right _ (List.mem_append_right _ (List.mem_append_right _ (List.mem_append_right _ (List.mem_append_right _ (List.mem_append_right _ (List.mem_append_right _ (List.mem_append_right _ (List.mem_append_right _ (List.mem_append_right _ (List.mem_append_left _ h))))))))))))))))))))))))))))))))))
  | 35, h => exact List.mem_append_right _ (List.mem_append_right _ (List.mem_append_right _ (List.mem_append_right _ (List.mem_append_right _ (List.mem_append_right _ (List.mem_append_right _ (List.mem_append_right _ (List.mem_append_right _ (List.mem_append_right _ (List.mem_append_right _ (List.mem_append_right _ (List.mem_append_right _ (List.mem_append_right _ (List.mem_append_right _ (List.mem_append_right _ (List.mem_append_right _ (List.mem_append_right _ (List.mem_append_right _ (List.mem_append_right _ (List.mem_append_right _ (List.mem_append_right _ (List.mem_append_right _ (List.mem_append_right _ (List.mem_append_right _ (List.mem_append_right _ (List.mem_append_right _ (List.mem_append_right _ (List.mem_append_right _ (List.mem_append_right _ (List.mem_append_right _ (List.mem_append_right _ (List.mem_append_right _ (List.mem_append_right _ (List.mem_append_right _ (List.mem_append_left _ h)))))))))))))))))))))))))))))))))))
  | 36, h => exact List.mem_append_right _ (List.mem_append_right _ (List.mem_append_right _ (List.mem_append_right _ (List.mem_append_right _ (List.mem_append_right _ (List.mem_append_right _ (List.mem_append_right _ (List.mem_append_right _ (List.mem_append_right _ (List.mem_append_right _ (List.mem_append_right _ (List.mem_append_right _ (List.mem_append_right _ (List.mem_append_right _ (List.mem_append_right _ (List.mem_append_right _ (List.mem_append_right _ (List.mem_append_right _ (List.mem_append_right _ (List.mem_append_right _ (List.mem_append_right _ (List.mem_append_right _ (List.mem_append_right _ (List.mem_append_right _ (List.mem_append_right _ (List.mem_append_right _ (List.mem_append_right _ (List.mem_append_right _ (List.mem_append_right _ (List.mem_append_right _ (List.mem_append_right _ (List.mem_append_right _ (List.mem_append_right _ (List.mem_append_right _ (List.mem_append_right _ (h))))))))))))))))))))))))))))))))))))
  | k + 37, h => exact absurd h List.not_mem_nil
theorem gwwsX00 : wsX00.all goodWord = true := by decide +kernel
theorem gbL_wsX00 : GoodIn wsL_law wsX00 := goodIn_b inlX0 gwwsX00
theorem gwwsX10 : wsX10.all goodWord = true := by decide +kernel
theorem gbL_wsX10 : GoodIn wsL_law wsX10 := goodIn_b inlX1 gwwsX10
theorem gwwsX20 : wsX20.all goodWord = true := by decide +kernel
theorem gbL_wsX20 : GoodIn wsL_law wsX20 := goodIn_b inlX2 gwwsX20
theorem gwwsX30 : wsX30.all goodWord = true := by decide +kernel
theorem gbL_wsX30 : GoodIn wsL_law wsX30 := goodIn_b inlX3 gwwsX30
theorem gwwsX40 : wsX40.all goodWord = true := by decide +kernel
theorem gbL_wsX40 : GoodIn wsL_law wsX40 := goodIn_b inlX4 gwwsX40
theorem gwwsX50 : wsX50.all goodWord = true := by decide +kernel
theorem gbL_wsX50 : GoodIn wsL_law wsX50 := goodIn_b inlX5 gwwsX50
theorem gwwsX60 : wsX60.all goodWord = true := by decide +kernel
theorem gbL_wsX60 : GoodIn wsL_law wsX60 := goodIn_b inlX6 gwwsX60
theorem gwwsX70 : wsX70.all goodWord = true := by decide +kernel
theorem gbL_wsX70 : GoodIn wsL_law wsX70 := goodIn_b inlX7 gwwsX70
set_option maxRecDepth 20000 in
theorem ggL_law_X6_init : GoodIn wsL_law wsX6_init := goodIn_w (goodIn_w (goodIn_w (goodIn_w (goodIn_w (goodIn_w (goodIn_w (goodIn_pc pcL_in (.code yX6_init cX6_init 2 none :: (wsX6_init_r1 ++ (wsX6_init_r2 ++ (wsX6_init_r3 ++ (wsX6_init_r4 ++ (wsX6_init_r5 ++ wsX6_init_r6)))))) [(0, 8, 16), (1, 0, 24), (2, 0, 24), (3, 0, 24), (4, 0, 24), (5, 0, 15)] rfl (by decide +kernel)) gbL_wsX60) gbL_wsX40) gbL_wsX00) gbL_wsX10) gbL_wsX30) gbL_wsX50) gbL_wsX20
set_option maxRecDepth 20000 in
theorem gL_law_X6_init : GoodIn wsL_law (wsX6_init) := ggL_law_X6_init
set_option maxRecDepth 20000 in
theorem ggL_law_X7_init : GoodIn wsL_law wsX7_init := goodIn_w (goodIn_pc pcL_in (.code yX7_init cX7_init 1 none :: (wsX7_init_r1 ++ (wsX7_init_r2 ++ wsX7_init_r3))) [(5, 17, 2), (0, 10, 2), (1, 0, 1), (5, 19, 5), (6, 0, 22), (3, 16, 1), (6, 22, 2), (7, 0, 24), (8, 0, 10)] rfl (by decide +kernel)) gbL_wsX70
set_option maxRecDepth 20000 in
theorem gL_law_X7_init : GoodIn wsL_law (wsX7_init) := ggL_law_X7_init
set_option maxRecDepth 20000 in
theorem ggL_law_X6_problem : GoodIn wsL_law wsX6_problem := goodIn_w (goodIn_pc pcL_in (.code yX6_problem cX6_problem 1 (some .int) :: [.fieldLink RX6 29 "CrateHelpers" "underWay" "I", .fieldLink RX6 15 "CrateHelpers" "problemCount" "I"]) [(8, 13, 1), (0, 20, 1), (0, 14, 1)] rfl (by decide +kernel)) gbL_wsX60
set_option maxRecDepth 20000 in
theorem gL_law_X6_problem : GoodIn wsL_law (wsV RL 13 RX6 yX6_problem wsX6_problem) := goodIn_app (goodIn_pc pcL_in _ [(8, 10, 3), (0, 2, 1)] rfl (by decide +kernel)) ggL_law_X6_problem
set_option maxRecDepth 20000 in
theorem ggL_law_X7_problem : GoodIn wsL_law wsX7_problem := goodIn_w (goodIn_pc pcL_in (.code yX7_problem cX7_problem 1 (some .int) :: [.fieldLink RX7 201 "CrateHelpersModel" "thrown" "I", .fieldLink RX7 62 "CrateHelpersModel" "under" "I", .fieldLink RX7 204 "CrateHelpersModel" "problems" "I"]) [(8, 17, 2), (6, 12, 1), (8, 19, 1)] rfl (by decide +kernel)) gbL_wsX70
set_option maxRecDepth 20000 in
theorem gL_law_X7_problem : GoodIn wsL_law (wsV RL 17 RX7 yX7_problem wsX7_problem) := goodIn_app (goodIn_pc pcL_in _ [(8, 14, 3), (0, 5, 1)] rfl (by decide +kernel)) ggL_law_X7_problem
set_option maxRecDepth 20000 in
theorem ggL_law_X6_variable : GoodIn wsL_law wsX6_variable := goodIn_w (goodIn_w (goodIn_pc pcL_in (.code yX6_variable cX6_variable 5 (some .int) :: (wsX6_variable_r1 ++ wsX6_variable_r2)) [(8, 23, 1), (0, 20, 1), (0, 13, 1), (9, 0, 4), (0, 2, 1), (9, 4, 1), (0, 14, 1), (9, 5, 6), (1, 12, 1), (9, 11, 1), (2, 23, 1), (2, 19, 1), (3, 0, 1), (9, 12, 4), (2, 21, 2)] rfl (by decide +kernel)) gbL_wsX60) gbL_wsX10
set_option maxRecDepth 20000 in
theorem gL_law_X6_variable : GoodIn wsL_law (wsV RL 18 RX6 yX6_variable wsX6_variable) := goodIn_app (goodIn_pc pcL_in _ [(8, 20, 3), (0, 2, 1)] rfl (by decide +kernel)) ggL_law_X6_variable
set_option maxRecDepth 20000 in
theorem ggL_law_X7_variable : GoodIn wsL_law wsX7_variable := goodIn_w (goodIn_pc pcL_in (.code yX7_variable cX7_variable 5 (some .int) :: [.fieldLink RX7 201 "CrateHelpersModel" "thrown" "I", .fieldLink RX7 62 "CrateHelpersModel" "under" "I", .fieldLink RX7 7 "CrateHelpersModel" "variables" "[I", .fieldLink RX7 16 "CrateHelpersModel" "values" "[I", .fieldLink RX7 19 "CrateHelpersModel" "kinds" "[I", .methodLink RX7 214 yX7_isProblem, .instanceMethod yX7_isProblem, .selects RX7 yX7_isProblem yX7_isProblem, .initialized RX7, .code yX7_isProblem cX7_isProblem 2 (some .boolean), .fieldLink RX7 204 "CrateHelpersModel" "problems" "I", .methodLink RX7 207 yX7_in, .static yX7_in, .code yX7_in cX7_in 3 (some .boolean), .methodLink RX7 218 yX7_changes, .instanceMethod yX7_changes, .selects RX7 yX7_changes yX7_changes, .code yX7_changes cX7_changes 2 none, .fieldLink RX7 211 "CrateHelpersModel" "changes" "I", .fieldLink RX7 40 "CrateHelpersModel" "changed" "[I", .fieldLink RX7 114 "CrateHelpersModel" "isTold" "[Z", .fieldLink RX7 117 "CrateHelpersModel" "hasAnswer" "[Z"]) [(9, 19, 1), (8, 18, 1), (6, 12, 1), (5, 19, 1), (5, 21, 2), (9, 20, 3), (0, 5, 1), (9, 23, 1), (8, 19, 1), (10, 0, 8), (6, 5, 1), (7, 5, 2)] rfl (by decide +kernel)) gbL_wsX70
set_option maxRecDepth 20000 in
theorem gL_law_X7_variable : GoodIn wsL_law (wsV RL 22 RX7 yX7_variable wsX7_variable) := goodIn_app (goodIn_pc pcL_in _ [(9, 16, 3), (0, 5, 1)] rfl (by decide +kernel)) ggL_law_X7_variable
set_option maxRecDepth 20000 in
theorem ggL_law_X6_cost : GoodIn wsL_law wsX6_cost := goodIn_w (goodIn_w (goodIn_pc pcL_in (.code yX6_cost cX6_cost 5 (some .int) :: (wsX6_cost_r1 ++ wsX6_cost_r2)) [(10, 11, 1), (0, 13, 1), (10, 12, 2), (0, 20, 1), (9, 1, 3), (0, 2, 1), (9, 4, 1), (0, 14, 1), (9, 5, 3), (10, 14, 3), (1, 12, 1), (10, 17, 1), (2, 23, 1), (10, 18, 4), (2, 19, 1), (10, 22, 2), (11, 0, 2), (1, 10, 1), (11, 2, 5), (3, 0, 1), (3, 2, 1), (9, 12, 4), (2, 21, 2), (11, 7, 4)] rfl (by decide +kernel)) gbL_wsX60) gbL_wsX10
set_option maxRecDepth 20000 in
theorem gL_law_X6_cost : GoodIn wsL_law (wsV RL 23 RX6 yX6_cost wsX6_cost) := goodIn_app (goodIn_pc pcL_in _ [(10, 8, 3), (0, 2, 1)] rfl (by decide +kernel)) ggL_law_X6_cost
set_option maxRecDepth 20000 in
theorem ggL_law_X7_cost : GoodIn wsL_law wsX7_cost := goodIn_w (goodIn_pc pcL_in (.code yX7_cost cX7_cost 7 (some .int) :: (wsX7_cost_r1 ++ wsX7_cost_r2)) [(11, 14, 1), (8, 18, 1), (11, 15, 3), (6, 12, 1), (5, 22, 1), (11, 18, 1), (5, 23, 1), (11, 19, 3), (0, 5, 1), (11, 22, 1), (5, 19, 1), (5, 21, 1), (9, 20, 4), (8, 19, 1), (10, 0, 3), (11, 23, 1), (12, 0, 4), (10, 3, 5), (6, 5, 1), (7, 5, 2)] rfl (by decide +kernel)) gbL_wsX70
set_option maxRecDepth 20000 in
theorem gL_law_X7_cost : GoodIn wsL_law (wsV RL 27 RX7 yX7_cost wsX7_cost) := goodIn_app (goodIn_pc pcL_in _ [(11, 11, 3), (0, 5, 1)] rfl (by decide +kernel)) ggL_law_X7_cost
set_option maxRecDepth 20000 in
theorem ggL_law_X6_rule : GoodIn wsL_law wsX6_rule := goodIn_w (goodIn_w (goodIn_w (goodIn_pc pcL_in (.code yX6_rule cX6_rule 5 (some .int) :: (wsX6_rule_r1 ++ wsX6_rule_r2)) [(12, 7, 1), (0, 20, 1), (0, 13, 1), (12, 8, 1), (9, 1, 3), (0, 2, 1), (9, 4, 1), (0, 14, 1), (9, 5, 3), (12, 9, 6), (1, 12, 1), (12, 15, 1), (3, 4, 1), (2, 20, 1), (12, 16, 2), (9, 12, 4), (2, 21, 2)] rfl (by decide +kernel)) gbL_wsX60) gbL_wsX10) gbL_wsX20
set_option maxRecDepth 20000 in
theorem gL_law_X6_rule : GoodIn wsL_law (wsV RL 28 RX6 yX6_rule wsX6_rule) := goodIn_app (goodIn_pc pcL_in _ [(12, 4, 3), (0, 2, 1)] rfl (by decide +kernel)) ggL_law_X6_rule
set_option maxRecDepth 20000 in
theorem ggL_law_X7_rule : GoodIn wsL_law wsX7_rule := goodIn_w (goodIn_pc pcL_in (.code yX7_rule cX7_rule 5 (some .int) :: [.fieldLink RX7 201 "CrateHelpersModel" "thrown" "I", .fieldLink RX7 62 "CrateHelpersModel" "under" "I", .fieldLink RX7 13 "CrateHelpersModel" "rules" "[I", .fieldLink RX7 25 "CrateHelpersModel" "ruleKind" "[I", .fieldLink RX7 28 "CrateHelpersModel" "ruleNumber" "[I", .methodLink RX7 214 yX7_isProblem, .instanceMethod yX7_isProblem, .selects RX7 yX7_isProblem yX7_isProblem, .initialized RX7, .code yX7_isProblem cX7_isProblem 2 (some .boolean), .fieldLink RX7 204 "CrateHelpersModel" "problems" "I", .methodLink RX7 207 yX7_in, .static yX7_in, .code yX7_in cX7_in 3 (some .boolean), .methodLink RX7 218 yX7_changes, .instanceMethod yX7_changes, .selects RX7 yX7_changes yX7_changes, .code yX7_changes cX7_changes 2 none, .fieldLink RX7 211 "CrateHelpersModel" "changes" "I", .fieldLink RX7 40 "CrateHelpersModel" "changed" "[I", .fieldLink RX7 114 "CrateHelpersModel" "isTold" "[Z", .fieldLink RX7 117 "CrateHelpersModel" "hasAnswer" "[Z"]) [(12, 21, 1), (8, 18, 1), (6, 12, 1), (5, 20, 1), (6, 0, 2), (9, 20, 3), (0, 5, 1), (9, 23, 1), (8, 19, 1), (10, 0, 8), (6, 5, 1), (7, 5, 2)] rfl (by decide +kernel)) gbL_wsX70
set_option maxRecDepth 20000 in
theorem gL_law_X7_rule : GoodIn wsL_law (wsV RL 31 RX7 yX7_rule wsX7_rule) := goodIn_app (goodIn_pc pcL_in _ [(12, 18, 3), (0, 5, 1)] rfl (by decide +kernel)) ggL_law_X7_rule
set_option maxRecDepth 20000 in
theorem ggL_law_X6_part : GoodIn wsL_law wsX6_part := goodIn_w (goodIn_w (goodIn_w (goodIn_pc pcL_in (.code yX6_part cX6_part 6 (some .int) :: (wsX6_part_r1 ++ wsX6_part_r2)) [(13, 1, 1), (0, 13, 1), (0, 20, 1), (13, 2, 2), (9, 1, 3), (0, 2, 1), (9, 4, 1), (0, 14, 1), (9, 5, 3), (13, 4, 3), (1, 12, 1), (13, 7, 1), (2, 20, 1), (13, 8, 1), (10, 19, 3), (2, 19, 1), (13, 9, 4), (3, 4, 1), (13, 13, 1), (9, 12, 4), (2, 21, 2), (13, 14, 3), (3, 7, 1), (13, 17, 1), (3, 14, 1), (3, 13, 1), (3, 15, 1), (3, 17, 2)] rfl (by decide +kernel)) gbL_wsX60) gbL_wsX10) gbL_wsX20
set_option maxRecDepth 20000 in
theorem gL_law_X6_part : GoodIn wsL_law (wsV RL 32 RX6 yX6_part wsX6_part) := goodIn_app (goodIn_pc pcL_in _ [(12, 22, 2), (13, 0, 1), (0, 2, 1)] rfl (by decide +kernel)) ggL_law_X6_part
set_option maxRecDepth 20000 in
theorem ggL_law_X7_part : GoodIn wsL_law wsX7_part := goodIn_w (goodIn_pc pcL_in (.code yX7_part cX7_part 6 (some .int) :: (wsX7_part_r1 ++ wsX7_part_r2)) [(13, 21, 1), (8, 18, 1), (5, 19, 1), (6, 12, 1), (6, 3, 1), (6, 2, 1), (6, 4, 1), (13, 22, 2), (14, 0, 1), (0, 5, 1), (14, 1, 1), (5, 20, 1), (9, 20, 4), (8, 19, 1), (10, 0, 3), (14, 2, 4), (10, 3, 5), (6, 5, 1), (7, 5, 2)] rfl (by decide +kernel)) gbL_wsX70
set_option maxRecDepth 20000 in
theorem gL_law_X7_part : GoodIn wsL_law (wsV RL 35 RX7 yX7_part wsX7_part) := goodIn_app (goodIn_pc pcL_in _ [(13, 18, 3), (0, 5, 1)] rfl (by decide +kernel)) ggL_law_X7_part
set_option maxRecDepth 20000 in
theorem ggL_law_X6_number : GoodIn wsL_law wsX6_number := goodIn_w (goodIn_w (goodIn_w (goodIn_pc pcL_in (.code yX6_number cX6_number 4 (some .int) :: (wsX6_number_r1 ++ wsX6_number_r2)) [(14, 9, 1), (0, 13, 1), (0, 20, 1), (9, 1, 3), (0, 2, 1), (9, 4, 1), (0, 14, 1), (9, 5, 3), (13, 4, 3), (1, 12, 1), (13, 7, 1), (2, 20, 1), (12, 9, 3), (10, 22, 2), (11, 0, 2), (1, 10, 1), (11, 2, 1), (14, 10, 4), (3, 4, 1), (12, 17, 1), (9, 12, 4), (2, 21, 2), (11, 7, 4)] rfl (by decide +kernel)) gbL_wsX60) gbL_wsX10) gbL_wsX20
set_option maxRecDepth 20000 in
theorem gL_law_X6_number : GoodIn wsL_law (wsV RL 36 RX6 yX6_number wsX6_number) := goodIn_app (goodIn_pc pcL_in _ [(14, 6, 3), (0, 2, 1)] rfl (by decide +kernel)) ggL_law_X6_number
set_option maxRecDepth 20000 in
theorem ggL_law_X7_number : GoodIn wsL_law wsX7_number := goodIn_w (goodIn_pc pcL_in (.code yX7_number cX7_number 5 (some .int) :: (wsX7_number_r1 ++ wsX7_number_r2)) [(14, 17, 1), (8, 18, 1), (11, 15, 1), (6, 12, 1), (6, 1, 1), (13, 22, 2), (14, 0, 1), (0, 5, 1), (14, 1, 1), (5, 20, 1), (9, 20, 4), (8, 19, 1), (10, 0, 3), (11, 23, 1), (12, 0, 4), (10, 3, 5), (6, 5, 1), (7, 5, 2)] rfl (by decide +kernel)) gbL_wsX70
set_option maxRecDepth 20000 in
theorem gL_law_X7_number : GoodIn wsL_law (wsV RL 39 RX7 yX7_number wsX7_number) := goodIn_app (goodIn_pc pcL_in _ [(14, 14, 3), (0, 5, 1)] rfl (by decide +kernel)) ggL_law_X7_number
set_option maxRecDepth 20000 in
theorem ggL_law_X6_helpers : GoodIn wsL_law wsX6_helpers := goodIn_w (goodIn_w (goodIn_pc pcL_in (.code yX6_helpers cX6_helpers 3 (some .int) :: [.fieldLink RX6 29 "CrateHelpers" "underWay" "I", .fieldLink RX6 22 "CrateHelpers" "team" "LCrateHelpers$Team;", .fieldLink RX6 158 "CrateHelpers$Team" "size" "I", .methodLink RX6 99 yX6_isWithin, .static yX6_isWithin, .initialized RX6, .code yX6_isWithin cX6_isWithin 3 (some .boolean), .methodLink RX6 161 yX4_become, .instanceMethod yX4_become, .selects RX4 yX4_become yX4_become, .initialized RX4, .code yX4_become cX4_become 2 none, .fieldLink RX4 9 "CrateHelpers$Team" "size" "I", .fieldLink RX4 18 "CrateHelpers$Team" "failAt" "[I", .methodLink RX4 34 yJ7_fill_53178, .static yJ7_fill_53178, .initialized RJ7, .code yJ7_fill_53178 cJ7_fill_53178 4 none]) [(14, 21, 1), (0, 20, 1), (0, 18, 1), (14, 22, 1), (9, 5, 2), (0, 2, 1), (9, 7, 1), (14, 23, 1), (15, 0, 2), (0, 17, 1), (15, 2, 1), (2, 1, 1), (2, 3, 1), (15, 3, 1), (5, 12, 3)] rfl (by decide +kernel)) gbL_wsX60) gbL_wsX40
set_option maxRecDepth 20000 in
theorem gL_law_X6_helpers : GoodIn wsL_law (wsV RL 40 RX6 yX6_helpers wsX6_helpers) := goodIn_app (goodIn_pc pcL_in _ [(14, 18, 3), (0, 2, 1)] rfl (by decide +kernel)) ggL_law_X6_helpers
set_option maxRecDepth 20000 in
theorem ggL_law_X7_helpers : GoodIn wsL_law wsX7_helpers := goodIn_w (goodIn_pc pcL_in (.code yX7_helpers cX7_helpers 4 (some .int) :: [.fieldLink RX7 201 "CrateHelpersModel" "thrown" "I", .fieldLink RX7 62 "CrateHelpersModel" "under" "I", .fieldLink RX7 43 "CrateHelpersModel" "helpers" "I", .fieldLink RX7 47 "CrateHelpersModel" "failAt" "[I", .methodLink RX7 207 yX7_in, .static yX7_in, .initialized RX7, .code yX7_in cX7_in 3 (some .boolean)]) [(15, 7, 1), (8, 18, 1), (6, 12, 1), (6, 6, 2), (10, 0, 2), (0, 5, 1), (10, 2, 1)] rfl (by decide +kernel)) gbL_wsX70
set_option maxRecDepth 20000 in
theorem gL_law_X7_helpers : GoodIn wsL_law (wsV RL 44 RX7 yX7_helpers wsX7_helpers) := goodIn_app (goodIn_pc pcL_in _ [(15, 4, 3), (0, 5, 1)] rfl (by decide +kernel)) ggL_law_X7_helpers
set_option maxRecDepth 20000 in
theorem ggL_law_X6_fail : GoodIn wsL_law wsX6_fail := goodIn_w (goodIn_w (goodIn_pc pcL_in (.code yX6_fail cX6_fail 3 (some .int) :: [.fieldLink RX6 22 "CrateHelpers" "team" "LCrateHelpers$Team;", .fieldLink RX6 158 "CrateHelpers$Team" "size" "I", .fieldLink RX6 29 "CrateHelpers" "underWay" "I", .fieldLink RX6 165 "CrateHelpers$Team" "failAt" "[I", .methodLink RX6 99 yX6_isWithin, .static yX6_isWithin, .initialized RX6, .code yX6_isWithin cX6_isWithin 3 (some .boolean)]) [(15, 11, 1), (0, 18, 1), (14, 22, 1), (0, 20, 1), (15, 12, 1), (9, 5, 2), (0, 2, 1), (9, 7, 1)] rfl (by decide +kernel)) gbL_wsX60) gbL_wsX40
set_option maxRecDepth 20000 in
theorem gL_law_X6_fail : GoodIn wsL_law (wsV RL 45 RX6 yX6_fail wsX6_fail) := goodIn_app (goodIn_pc pcL_in _ [(15, 8, 3), (0, 2, 1)] rfl (by decide +kernel)) ggL_law_X6_fail
set_option maxRecDepth 20000 in
theorem ggL_law_X7_fail : GoodIn wsL_law wsX7_fail := goodIn_w (goodIn_pc pcL_in (.code yX7_fail cX7_fail 3 (some .int) :: [.fieldLink RX7 201 "CrateHelpersModel" "thrown" "I", .fieldLink RX7 43 "CrateHelpersModel" "helpers" "I", .fieldLink RX7 62 "CrateHelpersModel" "under" "I", .fieldLink RX7 47 "CrateHelpersModel" "failAt" "[I", .methodLink RX7 207 yX7_in, .static yX7_in, .initialized RX7, .code yX7_in cX7_in 3 (some .boolean)]) [(15, 16, 1), (8, 18, 1), (6, 6, 1), (6, 12, 1), (6, 7, 1), (10, 0, 2), (0, 5, 1), (10, 2, 1)] rfl (by decide +kernel)) gbL_wsX70
set_option maxRecDepth 20000 in
theorem gL_law_X7_fail : GoodIn wsL_law (wsV RL 49 RX7 yX7_fail wsX7_fail) := goodIn_app (goodIn_pc pcL_in _ [(15, 13, 3), (0, 5, 1)] rfl (by decide +kernel)) ggL_law_X7_fail
set_option maxRecDepth 20000 in
theorem ggL_law_X6_turn : GoodIn wsL_law wsX6_turn := goodIn_w (goodIn_w (goodIn_pc pcL_in (.code yX6_turn cX6_turn 2 (some .int) :: [.fieldLink RX6 29 "CrateHelpers" "underWay" "I", .fieldLink RX6 22 "CrateHelpers" "team" "LCrateHelpers$Team;", .fieldLink RX6 168 "CrateHelpers$Team" "scheduled" "I", .fieldLink RX6 171 "CrateHelpers$Team" "schedule" "[I", .methodLink RX6 99 yX6_isWithin, .static yX6_isWithin, .initialized RX6, .code yX6_isWithin cX6_isWithin 3 (some .boolean)]) [(15, 20, 1), (0, 20, 1), (0, 18, 1), (15, 21, 2), (9, 5, 2), (0, 2, 1), (9, 7, 1)] rfl (by decide +kernel)) gbL_wsX60) gbL_wsX40
set_option maxRecDepth 20000 in
theorem gL_law_X6_turn : GoodIn wsL_law (wsV RL 50 RX6 yX6_turn wsX6_turn) := goodIn_app (goodIn_pc pcL_in _ [(15, 17, 3), (0, 2, 1)] rfl (by decide +kernel)) ggL_law_X6_turn
set_option maxRecDepth 20000 in
theorem ggL_law_X7_turn : GoodIn wsL_law wsX7_turn := goodIn_w (goodIn_pc pcL_in (.code yX7_turn cX7_turn 2 (some .int) :: [.fieldLink RX7 201 "CrateHelpersModel" "thrown" "I", .fieldLink RX7 62 "CrateHelpersModel" "under" "I", .fieldLink RX7 243 "CrateHelpersModel" "scheduled" "I", .fieldLink RX7 50 "CrateHelpersModel" "schedule" "[I", .methodLink RX7 207 yX7_in, .static yX7_in, .initialized RX7, .code yX7_in cX7_in 3 (some .boolean)]) [(16, 2, 1), (8, 18, 1), (6, 12, 1), (16, 3, 1), (6, 8, 1), (10, 0, 2), (0, 5, 1), (10, 2, 1)] rfl (by decide +kernel)) gbL_wsX70
set_option maxRecDepth 20000 in
theorem gL_law_X7_turn : GoodIn wsL_law (wsV RL 53 RX7 yX7_turn wsX7_turn) := goodIn_app (goodIn_pc pcL_in _ [(15, 23, 1), (16, 0, 2), (0, 5, 1)] rfl (by decide +kernel)) ggL_law_X7_turn
set_option maxRecDepth 20000 in
theorem ggL_law_X6_plain : GoodIn wsL_law wsX6_plain := goodIn_w (goodIn_w (goodIn_pc pcL_in (.code yX6_plain cX6_plain 2 (some .int) :: [.fieldLink RX6 29 "CrateHelpers" "underWay" "I", .fieldLink RX6 22 "CrateHelpers" "team" "LCrateHelpers$Team;", .fieldLink RX6 168 "CrateHelpers$Team" "scheduled" "I"]) [(16, 7, 1), (0, 20, 1), (0, 18, 1), (15, 21, 1)] rfl (by decide +kernel)) gbL_wsX60) gbL_wsX40
set_option maxRecDepth 20000 in
theorem gL_law_X6_plain : GoodIn wsL_law (wsV RL 54 RX6 yX6_plain wsX6_plain) := goodIn_app (goodIn_pc pcL_in _ [(16, 4, 3), (0, 2, 1)] rfl (by decide +kernel)) ggL_law_X6_plain
set_option maxRecDepth 20000 in
theorem ggL_law_X7_plain : GoodIn wsL_law wsX7_plain := goodIn_w (goodIn_pc pcL_in (.code yX7_plain cX7_plain 2 (some .int) :: [.fieldLink RX7 201 "CrateHelpersModel" "thrown" "I", .fieldLink RX7 62 "CrateHelpersModel" "under" "I", .fieldLink RX7 243 "CrateHelpersModel" "scheduled" "I"]) [(16, 11, 1), (8, 18, 1), (6, 12, 1), (16, 3, 1)] rfl (by decide +kernel)) gbL_wsX70
set_option maxRecDepth 20000 in
theorem gL_law_X7_plain : GoodIn wsL_law (wsV RL 57 RX7 yX7_plain wsX7_plain) := goodIn_app (goodIn_pc pcL_in _ [(16, 8, 3), (0, 5, 1)] rfl (by decide +kernel)) ggL_law_X7_plain
set_option maxRecDepth 20000 in
theorem ggL_law_X6_limit : GoodIn wsL_law wsX6_limit := goodIn_w (goodIn_pc pcL_in (.code yX6_limit cX6_limit 3 (some .int) :: [.fieldLink RX6 29 "CrateHelpers" "underWay" "I", .fieldLink RX6 26 "CrateHelpers" "nodeLimit" "I", .methodLink RX6 99 yX6_isWithin, .static yX6_isWithin, .initialized RX6, .code yX6_isWithin cX6_isWithin 3 (some .boolean)]) [(16, 15, 1), (0, 20, 1), (0, 19, 1), (9, 5, 2), (0, 2, 1), (9, 7, 1)] rfl (by decide +kernel)) gbL_wsX60
set_option maxRecDepth 20000 in
theorem gL_law_X6_limit : GoodIn wsL_law (wsV RL 58 RX6 yX6_limit wsX6_limit) := goodIn_app (goodIn_pc pcL_in _ [(16, 12, 3), (0, 2, 1)] rfl (by decide +kernel)) ggL_law_X6_limit
set_option maxRecDepth 20000 in
theorem ggL_law_X7_limit : GoodIn wsL_law wsX7_limit := goodIn_w (goodIn_pc pcL_in (.code yX7_limit cX7_limit 3 (some .int) :: [.fieldLink RX7 201 "CrateHelpersModel" "thrown" "I", .fieldLink RX7 62 "CrateHelpersModel" "under" "I", .fieldLink RX7 246 "CrateHelpersModel" "limit" "I", .methodLink RX7 207 yX7_in, .static yX7_in, .initialized RX7, .code yX7_in cX7_in 3 (some .boolean)]) [(16, 19, 1), (8, 18, 1), (6, 12, 1), (16, 20, 1), (10, 0, 2), (0, 5, 1), (10, 2, 1)] rfl (by decide +kernel)) gbL_wsX70
set_option maxRecDepth 20000 in
theorem gL_law_X7_limit : GoodIn wsL_law (wsV RL 61 RX7 yX7_limit wsX7_limit) := goodIn_app (goodIn_pc pcL_in _ [(16, 16, 3), (0, 5, 1)] rfl (by decide +kernel)) ggL_law_X7_limit
set_option maxRecDepth 20000 in
theorem ggL_law_X6_solve : GoodIn wsL_law wsX6_solve := goodIn_w (goodIn_w (goodIn_w (goodIn_w (goodIn_w (goodIn_w (goodIn_w (goodIn_pc pcL_in (.code yX6_solve cX6_solve 5 (some .int) :: (wsX6_solve_r1 ++ (wsX6_solve_r2 ++ (wsX6_solve_r3 ++ (wsX6_solve_r4 ++ (wsX6_solve_r5 ++ (wsX6_solve_r6 ++ (wsX6_solve_r7 ++ (wsX6_solve_r8 ++ (wsX6_solve_r9 ++ (wsX6_solve_r10 ++ wsX6_solve_r11))))))))))) [(17, 0, 1), (0, 20, 1), (1, 16, 1), (0, 13, 1), (0, 18, 2), (9, 1, 3), (0, 2, 1), (9, 4, 1), (0, 14, 1), (9, 5, 3), (17, 1, 3), (1, 15, 1), (17, 4, 1), (4, 5, 1), (3, 23, 1), (4, 0, 1), (17, 5, 1), (4, 1, 2), (4, 4, 1), (17, 6, 2), (5, 12, 3), (17, 8, 3), (1, 19, 1), (17, 11, 1), (4, 22, 1), (4, 17, 1), (4, 11, 4), (4, 16, 1), (5, 9, 1), (17, 12, 4), (1, 4, 1), (17, 16, 3), (2, 13, 1), (2, 11, 2), (2, 14, 1), (17, 19, 3), (1, 12, 1), (17, 22, 1), (2, 20, 1), (3, 4, 1), (2, 23, 1), (17, 23, 1), (18, 0, 2), (3, 7, 1), (18, 2, 1), (3, 11, 2), (18, 3, 1), (4, 19, 3), (18, 4, 4), (3, 13, 3), (18, 8, 16), (19, 0, 22), (3, 2, 1), (19, 22, 2), (20, 0, 2), (3, 17, 2), (20, 2, 10), (5, 0, 1), (20, 12, 1), (5, 2, 2), (20, 13, 1), (5, 4, 1), (20, 14, 1), (5, 5, 2), (5, 8, 1), (20, 15, 8), (0, 17, 1), (20, 23, 1), (2, 2, 1), (2, 4, 1), (2, 1, 1), (21, 0, 24), (22, 0, 24), (23, 0, 8), (4, 10, 1), (23, 8, 11), (1, 20, 1), (23, 19, 5), (24, 0, 7)] rfl (by decide +kernel)) gbL_wsX60) gbL_wsX30) gbL_wsX40) gbL_wsX50) gbL_wsX10) gbL_wsX00) gbL_wsX20
set_option maxRecDepth 20000 in
theorem gL_law_X6_solve : GoodIn wsL_law (wsV RL 62 RX6 yX6_solve wsX6_solve) := goodIn_app (goodIn_pc pcL_in _ [(16, 21, 3), (0, 2, 1)] rfl (by decide +kernel)) ggL_law_X6_solve
set_option maxRecDepth 20000 in
theorem ggL_law_X7_solve : GoodIn wsL_law wsX7_solve := goodIn_w (goodIn_pc pcL_in (.code yX7_solve cX7_solve 6 (some .int) :: (wsX7_solve_r1 ++ (wsX7_solve_r2 ++ (wsX7_solve_r3 ++ (wsX7_solve_r4 ++ (wsX7_solve_r5 ++ (wsX7_solve_r6 ++ wsX7_solve_r7))))))) [(24, 10, 1), (8, 18, 1), (6, 12, 1), (16, 20, 1), (24, 11, 2), (6, 13, 1), (6, 7, 1), (6, 14, 1), (6, 11, 1), (6, 15, 1), (24, 13, 1), (16, 3, 1), (6, 8, 1), (6, 6, 1), (9, 20, 3), (0, 5, 1), (9, 23, 1), (8, 19, 1), (10, 0, 3), (24, 14, 6), (7, 20, 1), (24, 20, 4), (25, 0, 2), (5, 19, 1), (5, 21, 1), (25, 2, 4), (5, 20, 1), (25, 6, 4), (6, 1, 1), (6, 0, 1), (6, 2, 3), (25, 10, 14), (26, 0, 10), (5, 23, 1), (14, 2, 4), (26, 10, 8), (6, 16, 1), (6, 20, 1), (6, 19, 1), (6, 21, 3), (7, 3, 1), (6, 17, 2), (26, 18, 4), (7, 0, 1), (7, 4, 1), (12, 3, 1), (7, 5, 3), (26, 22, 1), (7, 8, 1), (7, 10, 4), (7, 9, 1), (7, 14, 1), (7, 1, 1), (7, 15, 1), (7, 2, 1), (26, 23, 1), (27, 0, 11), (6, 9, 2), (27, 11, 13), (28, 0, 3)] rfl (by decide +kernel)) gbL_wsX70
set_option maxRecDepth 20000 in
theorem gL_law_X7_solve : GoodIn wsL_law (wsV RL 65 RX7 yX7_solve wsX7_solve) := goodIn_app (goodIn_pc pcL_in _ [(24, 7, 3), (0, 5, 1)] rfl (by decide +kernel)) ggL_law_X7_solve
set_option maxRecDepth 20000 in
theorem ggL_law_X6_giveUp : GoodIn wsL_law wsX6_giveUp := goodIn_w (goodIn_pc pcL_in (.code yX6_giveUp cX6_giveUp 2 (some .int) :: [.fieldLink RX6 29 "CrateHelpers" "underWay" "I"]) [(28, 6, 1), (0, 20, 1)] rfl (by decide +kernel)) gbL_wsX60
set_option maxRecDepth 20000 in
theorem gL_law_X6_giveUp : GoodIn wsL_law (wsV RL 66 RX6 yX6_giveUp wsX6_giveUp) := goodIn_app (goodIn_pc pcL_in _ [(28, 3, 3), (0, 2, 1)] rfl (by decide +kernel)) ggL_law_X6_giveUp
set_option maxRecDepth 20000 in
theorem ggL_law_X7_giveUp : GoodIn wsL_law wsX7_giveUp := goodIn_w (goodIn_pc pcL_in (.code yX7_giveUp cX7_giveUp 2 (some .int) :: [.fieldLink RX7 201 "CrateHelpersModel" "thrown" "I", .fieldLink RX7 62 "CrateHelpersModel" "under" "I"]) [(28, 10, 1), (8, 18, 1), (6, 12, 1)] rfl (by decide +kernel)) gbL_wsX70
set_option maxRecDepth 20000 in
theorem gL_law_X7_giveUp : GoodIn wsL_law (wsV RL 69 RX7 yX7_giveUp wsX7_giveUp) := goodIn_app (goodIn_pc pcL_in _ [(28, 7, 3), (0, 5, 1)] rfl (by decide +kernel)) ggL_law_X7_giveUp
set_option maxRecDepth 20000 in
theorem ggL_law_X6_told : GoodIn wsL_law wsX6_told := goodIn_w (goodIn_w (goodIn_pc pcL_in (.code yX6_told cX6_told 4 (some .int) :: [.fieldLink RX6 11 "CrateHelpers" "problems" "[LCrateHelpers$Problem;", .fieldLink RX6 185 "CrateHelpers$Problem" "hasEnded" "Z", .fieldLink RX6 189 "CrateHelpers$Problem" "outcome" "[I", .methodLink RX6 95 yX6_isProblem, .instanceMethod yX6_isProblem, .selects RX6 yX6_isProblem yX6_isProblem, .initialized RX6, .code yX6_isProblem cX6_isProblem 2 (some .boolean), .fieldLink RX6 15 "CrateHelpers" "problemCount" "I", .methodLink RX6 99 yX6_isWithin, .static yX6_isWithin, .code yX6_isWithin cX6_isWithin 3 (some .boolean)]) [(28, 14, 1), (0, 13, 1), (23, 18, 1), (23, 17, 1), (9, 1, 3), (0, 2, 1), (9, 4, 1), (0, 14, 1), (9, 5, 3)] rfl (by decide +kernel)) gbL_wsX60) gbL_wsX10
set_option maxRecDepth 20000 in
theorem gL_law_X6_told : GoodIn wsL_law (wsV RL 70 RX6 yX6_told wsX6_told) := goodIn_app (goodIn_pc pcL_in _ [(28, 11, 3), (0, 2, 1)] rfl (by decide +kernel)) ggL_law_X6_told
set_option maxRecDepth 20000 in
theorem ggL_law_X7_told : GoodIn wsL_law wsX7_told := goodIn_w (goodIn_pc pcL_in (.code yX7_told cX7_told 3 (some .int) :: [.fieldLink RX7 201 "CrateHelpersModel" "thrown" "I", .fieldLink RX7 114 "CrateHelpersModel" "isTold" "[Z", .fieldLink RX7 111 "CrateHelpersModel" "toldAt" "[I", .methodLink RX7 214 yX7_isProblem, .instanceMethod yX7_isProblem, .selects RX7 yX7_isProblem yX7_isProblem, .initialized RX7, .code yX7_isProblem cX7_isProblem 2 (some .boolean), .fieldLink RX7 204 "CrateHelpersModel" "problems" "I", .methodLink RX7 207 yX7_in, .static yX7_in, .code yX7_in cX7_in 3 (some .boolean)]) [(28, 18, 1), (8, 18, 1), (7, 5, 1), (7, 4, 1), (9, 20, 3), (0, 5, 1), (9, 23, 1), (8, 19, 1), (10, 0, 3)] rfl (by decide +kernel)) gbL_wsX70
set_option maxRecDepth 20000 in
theorem gL_law_X7_told : GoodIn wsL_law (wsV RL 73 RX7 yX7_told wsX7_told) := goodIn_app (goodIn_pc pcL_in _ [(28, 15, 3), (0, 5, 1)] rfl (by decide +kernel)) ggL_law_X7_told
set_option maxRecDepth 20000 in
theorem ggL_law_X6_answer : GoodIn wsL_law wsX6_answer := goodIn_w (goodIn_w (goodIn_pc pcL_in (.code yX6_answer cX6_answer 4 (some .int) :: [.fieldLink RX6 11 "CrateHelpers" "problems" "[LCrateHelpers$Problem;", .fieldLink RX6 185 "CrateHelpers$Problem" "hasEnded" "Z", .fieldLink RX6 189 "CrateHelpers$Problem" "outcome" "[I", .methodLink RX6 95 yX6_isProblem, .instanceMethod yX6_isProblem, .selects RX6 yX6_isProblem yX6_isProblem, .initialized RX6, .code yX6_isProblem cX6_isProblem 2 (some .boolean), .fieldLink RX6 15 "CrateHelpers" "problemCount" "I", .methodLink RX6 99 yX6_isWithin, .static yX6_isWithin, .code yX6_isWithin cX6_isWithin 3 (some .boolean), .methodLink RX6 139 yX1_hasVariable, .instanceMethod yX1_hasVariable, .selects RX1 yX1_hasVariable yX1_hasVariable, .initialized RX1, .code yX1_hasVariable cX1_hasVariable 2 (some .boolean), .fieldLink RX1 9 "CrateHelpers$Problem" "variables" "I"]) [(28, 22, 1), (0, 13, 1), (23, 18, 1), (23, 17, 1), (9, 1, 3), (0, 2, 1), (9, 4, 1), (0, 14, 1), (9, 5, 3), (13, 8, 1), (10, 19, 2), (1, 12, 1), (10, 21, 1), (2, 19, 1)] rfl (by decide +kernel)) gbL_wsX60) gbL_wsX10
set_option maxRecDepth 20000 in
theorem gL_law_X6_answer : GoodIn wsL_law (wsV RL 74 RX6 yX6_answer wsX6_answer) := goodIn_app (goodIn_pc pcL_in _ [(28, 19, 3), (0, 2, 1)] rfl (by decide +kernel)) ggL_law_X6_answer
set_option maxRecDepth 20000 in
theorem ggL_law_X7_answer : GoodIn wsL_law wsX7_answer := goodIn_w (goodIn_pc pcL_in (.code yX7_answer cX7_answer 3 (some .int) :: [.fieldLink RX7 201 "CrateHelpersModel" "thrown" "I", .fieldLink RX7 7 "CrateHelpersModel" "variables" "[I", .fieldLink RX7 117 "CrateHelpersModel" "hasAnswer" "[Z", .fieldLink RX7 120 "CrateHelpersModel" "answerRow" "[I", .methodLink RX7 214 yX7_isProblem, .instanceMethod yX7_isProblem, .selects RX7 yX7_isProblem yX7_isProblem, .initialized RX7, .code yX7_isProblem cX7_isProblem 2 (some .boolean), .fieldLink RX7 204 "CrateHelpersModel" "problems" "I", .methodLink RX7 207 yX7_in, .static yX7_in, .code yX7_in cX7_in 3 (some .boolean)]) [(29, 2, 1), (8, 18, 1), (5, 19, 1), (7, 6, 2), (9, 20, 3), (0, 5, 1), (9, 23, 1), (8, 19, 1), (10, 0, 3)] rfl (by decide +kernel)) gbL_wsX70
set_option maxRecDepth 20000 in
theorem gL_law_X7_answer : GoodIn wsL_law (wsV RL 77 RX7 yX7_answer wsX7_answer) := goodIn_app (goodIn_pc pcL_in _ [(28, 23, 1), (29, 0, 2), (0, 5, 1)] rfl (by decide +kernel)) ggL_law_X7_answer
set_option maxRecDepth 20000 in
theorem ggL_law_X6_walked : GoodIn wsL_law wsX6_walked := goodIn_w (goodIn_w (goodIn_w (goodIn_pc pcL_in (.code yX6_walked cX6_walked 4 (some .int) :: (wsX6_walked_r1 ++ wsX6_walked_r2)) [(29, 6, 1), (1, 20, 1), (29, 7, 4), (9, 5, 2), (0, 2, 1), (9, 7, 1), (29, 11, 1), (24, 3, 2), (1, 19, 1), (24, 5, 1), (5, 0, 1), (29, 12, 4), (5, 3, 1), (5, 8, 1), (23, 8, 4), (4, 22, 1), (22, 2, 1), (5, 2, 1), (29, 16, 1), (22, 13, 7)] rfl (by decide +kernel)) gbL_wsX60) gbL_wsX50) gbL_wsX10
set_option maxRecDepth 20000 in
theorem gL_law_X6_walked : GoodIn wsL_law (wsV RL 78 RX6 yX6_walked wsX6_walked) := goodIn_app (goodIn_pc pcL_in _ [(29, 3, 3), (0, 2, 1)] rfl (by decide +kernel)) ggL_law_X6_walked
set_option maxRecDepth 20000 in
theorem ggL_law_X7_walked : GoodIn wsL_law wsX7_walked := goodIn_w (goodIn_pc pcL_in (.code yX7_walked cX7_walked 3 (some .int) :: [.fieldLink RX7 201 "CrateHelpersModel" "thrown" "I", .fieldLink RX7 313 "CrateHelpersModel" "walked" "I", .fieldLink RX7 123 "CrateHelpersModel" "walkedDepth" "[I", .fieldLink RX7 126 "CrateHelpersModel" "walkedRow" "[I", .fieldLink RX7 129 "CrateHelpersModel" "walkedBound" "[I", .fieldLink RX7 132 "CrateHelpersModel" "walkedBy" "[I", .fieldLink RX7 135 "CrateHelpersModel" "walkedOpen" "[I", .methodLink RX7 207 yX7_in, .static yX7_in, .initialized RX7, .code yX7_in cX7_in 3 (some .boolean)]) [(29, 20, 1), (8, 18, 1), (26, 22, 1), (7, 8, 5), (10, 0, 2), (0, 5, 1), (10, 2, 1)] rfl (by decide +kernel)) gbL_wsX70
set_option maxRecDepth 20000 in
theorem gL_law_X7_walked : GoodIn wsL_law (wsV RL 81 RX7 yX7_walked wsX7_walked) := goodIn_app (goodIn_pc pcL_in _ [(29, 17, 3), (0, 5, 1)] rfl (by decide +kernel)) ggL_law_X7_walked
set_option maxRecDepth 20000 in
theorem ggL_law_X6_closed : GoodIn wsL_law wsX6_closed := goodIn_w (goodIn_w (goodIn_w (goodIn_pc pcL_in (.code yX6_closed cX6_closed 5 (some .int) :: [.fieldLink RX6 82 "CrateHelpers" "lastEnded" "LCrateHelpers$Tree;", .fieldLink RX6 192 "CrateHelpers$Tree" "taken" "I", .fieldLink RX6 195 "CrateHelpers$Tree" "walk" "[I", .fieldLink RX6 217 "CrateHelpers$Tree" "what" "[B", .fieldLink RX6 220 "CrateHelpers$Tree" "why" "[B", .methodLink RX6 99 yX6_isWithin, .static yX6_isWithin, .initialized RX6, .code yX6_isWithin cX6_isWithin 3 (some .boolean), .methodLink RX6 214 yX5_below, .instanceMethod yX5_below, .selects RX5 yX5_below yX5_below, .initialized RX5, .code yX5_below cX5_below 3 (some .int), .fieldLink RX5 69 "CrateHelpers$Tree" "firstBelow" "[S", .methodLink RX5 117 yX5_widthBelow, .instanceMethod yX5_widthBelow, .selects RX5 yX5_widthBelow yX5_widthBelow, .code yX5_widthBelow cX5_widthBelow 2 (some .int), .fieldLink RX5 45 "CrateHelpers$Tree" "problem" "LCrateHelpers$Problem;", .fieldLink RX5 108 "CrateHelpers$Problem" "sizes" "[I", .fieldLink RX5 53 "CrateHelpers$Tree" "depth" "[B"]) [(30, 0, 1), (1, 20, 1), (29, 7, 2), (30, 1, 2), (9, 5, 2), (0, 2, 1), (9, 7, 1), (30, 3, 3), (1, 19, 1), (30, 6, 1), (5, 8, 1), (23, 8, 4), (4, 22, 1), (22, 2, 1), (5, 2, 1)] rfl (by decide +kernel)) gbL_wsX60) gbL_wsX50) gbL_wsX10
set_option maxRecDepth 20000 in
theorem gL_law_X6_closed : GoodIn wsL_law (wsV RL 82 RX6 yX6_closed wsX6_closed) := goodIn_app (goodIn_pc pcL_in _ [(29, 21, 3), (0, 2, 1)] rfl (by decide +kernel)) ggL_law_X6_closed
set_option maxRecDepth 20000 in
theorem ggL_law_X7_closed : GoodIn wsL_law wsX7_closed := goodIn_w (goodIn_pc pcL_in (.code yX7_closed cX7_closed 4 (some .int) :: [.fieldLink RX7 201 "CrateHelpersModel" "thrown" "I", .fieldLink RX7 313 "CrateHelpersModel" "walked" "I", .fieldLink RX7 138 "CrateHelpersModel" "walkedValues" "[I", .fieldLink RX7 141 "CrateHelpersModel" "walkedClosing" "[I", .fieldLink RX7 144 "CrateHelpersModel" "walkedReason" "[I", .methodLink RX7 207 yX7_in, .static yX7_in, .initialized RX7, .code yX7_in cX7_in 3 (some .boolean)]) [(30, 10, 1), (8, 18, 1), (26, 22, 1), (7, 13, 3), (10, 0, 2), (0, 5, 1), (10, 2, 1)] rfl (by decide +kernel)) gbL_wsX70
set_option maxRecDepth 20000 in
theorem gL_law_X7_closed : GoodIn wsL_law (wsV RL 85 RX7 yX7_closed wsX7_closed) := goodIn_app (goodIn_pc pcL_in _ [(30, 7, 3), (0, 5, 1)] rfl (by decide +kernel)) ggL_law_X7_closed
set_option maxRecDepth 20000 in
theorem ggL_law_X6_helper : GoodIn wsL_law wsX6_helper := goodIn_w (goodIn_w (goodIn_pc pcL_in (.code yX6_helper cX6_helper 3 (some .int) :: [.fieldLink RX6 22 "CrateHelpers" "team" "LCrateHelpers$Team;", .fieldLink RX6 223 "CrateHelpers$Team" "done" "[I", .fieldLink RX6 226 "CrateHelpers$Team" "idle" "[I", .fieldLink RX6 229 "CrateHelpers$Team" "replaced" "[I", .methodLink RX6 99 yX6_isWithin, .static yX6_isWithin, .initialized RX6, .code yX6_isWithin cX6_isWithin 3 (some .boolean)]) [(30, 14, 1), (0, 18, 1), (30, 15, 3), (9, 5, 2), (0, 2, 1), (9, 7, 1)] rfl (by decide +kernel)) gbL_wsX60) gbL_wsX40
set_option maxRecDepth 20000 in
theorem gL_law_X6_helper : GoodIn wsL_law (wsV RL 86 RX6 yX6_helper wsX6_helper) := goodIn_app (goodIn_pc pcL_in _ [(30, 11, 3), (0, 2, 1)] rfl (by decide +kernel)) ggL_law_X6_helper
set_option maxRecDepth 20000 in
theorem ggL_law_X7_helper : GoodIn wsL_law wsX7_helper := goodIn_w (goodIn_pc pcL_in (.code yX7_helper cX7_helper 3 (some .int) :: [.fieldLink RX7 201 "CrateHelpersModel" "thrown" "I", .fieldLink RX7 59 "CrateHelpersModel" "didNow" "[I", .fieldLink RX7 53 "CrateHelpersModel" "idle" "[I", .fieldLink RX7 56 "CrateHelpersModel" "replaced" "[I", .methodLink RX7 207 yX7_in, .static yX7_in, .initialized RX7, .code yX7_in cX7_in 3 (some .boolean)]) [(30, 21, 1), (8, 18, 1), (6, 11, 1), (6, 9, 2), (10, 0, 2), (0, 5, 1), (10, 2, 1)] rfl (by decide +kernel)) gbL_wsX70
set_option maxRecDepth 20000 in
theorem gL_law_X7_helper : GoodIn wsL_law (wsV RL 89 RX7 yX7_helper wsX7_helper) := goodIn_app (goodIn_pc pcL_in _ [(30, 18, 3), (0, 5, 1)] rfl (by decide +kernel)) ggL_law_X7_helper
set_option maxRecDepth 20000 in
theorem ggL_law_X6_ask : GoodIn wsL_law wsX6_ask := goodIn_w (goodIn_w (goodIn_pc pcL_in (.code yX6_ask cX6_ask 2 (some .int) :: [.fieldLink RX6 32 "CrateHelpers" "asked" "I", .fieldLink RX6 11 "CrateHelpers" "problems" "[LCrateHelpers$Problem;", .fieldLink RX6 232 "CrateHelpers$Problem" "changes" "I", .fieldLink RX6 35 "CrateHelpers" "askedAtChange" "I", .fieldLink RX6 38 "CrateHelpers" "askedDepth" "I", .fieldLink RX6 41 "CrateHelpers" "askedValues" "[I", .fieldLink RX6 103 "CrateHelpers$Problem" "variables" "I", .methodLink RX6 95 yX6_isProblem, .instanceMethod yX6_isProblem, .selects RX6 yX6_isProblem yX6_isProblem, .initialized RX6, .code yX6_isProblem cX6_isProblem 2 (some .boolean), .fieldLink RX6 15 "CrateHelpers" "problemCount" "I", .methodLink RX6 99 yX6_isWithin, .static yX6_isWithin, .code yX6_isWithin cX6_isWithin 3 (some .boolean), .methodLink RX6 89 yJ7_fill_53178, .static yJ7_fill_53178, .initialized RJ7, .code yJ7_fill_53178 cJ7_fill_53178 4 none]) [(31, 1, 1), (0, 21, 1), (0, 13, 1), (31, 2, 1), (0, 22, 2), (1, 1, 1), (9, 0, 4), (0, 2, 1), (9, 4, 1), (0, 14, 1), (9, 5, 3), (5, 11, 4)] rfl (by decide +kernel)) gbL_wsX60) gbL_wsX10
set_option maxRecDepth 20000 in
theorem gL_law_X6_ask : GoodIn wsL_law (wsV RL 90 RX6 yX6_ask wsX6_ask) := goodIn_app (goodIn_pc pcL_in _ [(30, 22, 2), (31, 0, 1), (0, 2, 1)] rfl (by decide +kernel)) ggL_law_X6_ask
set_option maxRecDepth 20000 in
theorem ggL_law_X7_ask : GoodIn wsL_law wsX7_ask := goodIn_w (goodIn_pc pcL_in (.code yX7_ask cX7_ask 2 (some .int) :: [.fieldLink RX7 201 "CrateHelpersModel" "thrown" "I", .fieldLink RX7 147 "CrateHelpersModel" "asked" "I", .fieldLink RX7 40 "CrateHelpersModel" "changed" "[I", .fieldLink RX7 339 "CrateHelpersModel" "askedChange" "I", .fieldLink RX7 342 "CrateHelpersModel" "askedDepth" "I", .fieldLink RX7 7 "CrateHelpersModel" "variables" "[I", .methodLink RX7 214 yX7_isProblem, .instanceMethod yX7_isProblem, .selects RX7 yX7_isProblem yX7_isProblem, .initialized RX7, .code yX7_isProblem cX7_isProblem 2 (some .boolean), .fieldLink RX7 204 "CrateHelpersModel" "problems" "I", .methodLink RX7 207 yX7_in, .static yX7_in, .code yX7_in cX7_in 3 (some .boolean)]) [(31, 6, 1), (8, 18, 1), (7, 16, 1), (6, 5, 1), (31, 7, 2), (5, 19, 1), (9, 20, 3), (0, 5, 1), (9, 23, 1), (8, 19, 1), (10, 0, 3)] rfl (by decide +kernel)) gbL_wsX70
set_option maxRecDepth 20000 in
theorem gL_law_X7_ask : GoodIn wsL_law (wsV RL 93 RX7 yX7_ask wsX7_ask) := goodIn_app (goodIn_pc pcL_in _ [(31, 3, 3), (0, 5, 1)] rfl (by decide +kernel)) ggL_law_X7_ask
set_option maxRecDepth 20000 in
theorem ggL_law_X6_with : GoodIn wsL_law wsX6_with := goodIn_w (goodIn_w (goodIn_pc pcL_in (.code yX6_with cX6_with 2 (some .int) :: [.fieldLink RX6 32 "CrateHelpers" "asked" "I", .fieldLink RX6 11 "CrateHelpers" "problems" "[LCrateHelpers$Problem;", .fieldLink RX6 38 "CrateHelpers" "askedDepth" "I", .fieldLink RX6 41 "CrateHelpers" "askedValues" "[I", .methodLink RX6 110 yX1_hasValue, .instanceMethod yX1_hasValue, .selects RX1 yX1_hasValue yX1_hasValue, .initialized RX1, .code yX1_hasValue cX1_hasValue 3 (some .boolean), .fieldLink RX1 25 "CrateHelpers$Problem" "sizes" "[I", .methodLink RX1 47 yX1_hasVariable, .instanceMethod yX1_hasVariable, .selects RX1 yX1_hasVariable yX1_hasVariable, .code yX1_hasVariable cX1_hasVariable 2 (some .boolean), .fieldLink RX1 9 "CrateHelpers$Problem" "variables" "I"]) [(31, 12, 1), (0, 21, 1), (0, 13, 1), (0, 23, 1), (1, 1, 1), (10, 14, 3), (1, 12, 1), (10, 17, 1), (2, 23, 1), (10, 18, 4), (2, 19, 1)] rfl (by decide +kernel)) gbL_wsX60) gbL_wsX10
set_option maxRecDepth 20000 in
theorem gL_law_X6_with : GoodIn wsL_law (wsV RL 94 RX6 yX6_with wsX6_with) := goodIn_app (goodIn_pc pcL_in _ [(31, 9, 3), (0, 2, 1)] rfl (by decide +kernel)) ggL_law_X6_with
set_option maxRecDepth 20000 in
theorem ggL_law_X7_with : GoodIn wsL_law wsX7_with := goodIn_w (goodIn_pc pcL_in (.code yX7_with cX7_with 2 (some .int) :: [.fieldLink RX7 201 "CrateHelpersModel" "thrown" "I", .fieldLink RX7 147 "CrateHelpersModel" "asked" "I", .fieldLink RX7 342 "CrateHelpersModel" "askedDepth" "I", .fieldLink RX7 7 "CrateHelpersModel" "variables" "[I", .fieldLink RX7 16 "CrateHelpersModel" "values" "[I", .fieldLink RX7 150 "CrateHelpersModel" "askedRow" "[I", .methodLink RX7 207 yX7_in, .static yX7_in, .initialized RX7, .code yX7_in cX7_in 3 (some .boolean)]) [(31, 16, 1), (8, 18, 1), (7, 16, 1), (31, 8, 1), (5, 19, 1), (5, 21, 1), (7, 17, 1), (10, 0, 2), (0, 5, 1), (10, 2, 1)] rfl (by decide +kernel)) gbL_wsX70
set_option maxRecDepth 20000 in
theorem gL_law_X7_with : GoodIn wsL_law (wsV RL 97 RX7 yX7_with wsX7_with) := goodIn_app (goodIn_pc pcL_in _ [(31, 13, 3), (0, 5, 1)] rfl (by decide +kernel)) ggL_law_X7_with
set_option maxRecDepth 20000 in
theorem ggL_law_X6_node : GoodIn wsL_law wsX6_node := goodIn_w (goodIn_w (goodIn_w (goodIn_w (goodIn_pc pcL_in (.code yX6_node cX6_node 5 (some .int) :: (wsX6_node_r1 ++ (wsX6_node_r2 ++ (wsX6_node_r3 ++ (wsX6_node_r4 ++ (wsX6_node_r5 ++ wsX6_node_r6)))))) [(31, 20, 1), (0, 21, 1), (0, 13, 1), (31, 2, 1), (0, 22, 1), (13, 2, 1), (1, 1, 1), (31, 21, 1), (1, 5, 1), (0, 23, 1), (31, 22, 2), (32, 0, 1), (9, 5, 2), (0, 2, 1), (9, 7, 1), (13, 4, 3), (1, 12, 1), (13, 7, 1), (2, 20, 1), (32, 1, 1), (18, 0, 2), (3, 7, 1), (18, 2, 1), (3, 11, 2), (18, 3, 1), (4, 19, 3), (18, 4, 4), (3, 13, 3), (18, 8, 16), (19, 0, 10), (32, 2, 3), (10, 14, 4), (2, 23, 1), (10, 18, 4), (2, 19, 1), (32, 5, 5), (17, 20, 3), (3, 4, 1), (17, 23, 1), (32, 10, 1), (17, 14, 2), (1, 4, 1), (17, 16, 3), (2, 13, 1), (2, 11, 2), (2, 14, 1), (17, 19, 1), (19, 10, 12), (3, 2, 1), (19, 22, 2), (20, 0, 2), (3, 17, 2), (20, 2, 6)] rfl (by decide +kernel)) gbL_wsX60) gbL_wsX10) gbL_wsX00) gbL_wsX20
set_option maxRecDepth 20000 in
theorem gL_law_X6_node : GoodIn wsL_law (wsV RL 98 RX6 yX6_node wsX6_node) := goodIn_app (goodIn_pc pcL_in _ [(31, 17, 3), (0, 2, 1)] rfl (by decide +kernel)) ggL_law_X6_node
set_option maxRecDepth 20000 in
theorem ggL_law_X7_node : GoodIn wsL_law wsX7_node := goodIn_w (goodIn_pc pcL_in (.code yX7_node cX7_node 6 (some .int) :: (wsX7_node_r1 ++ (wsX7_node_r2 ++ (wsX7_node_r3 ++ wsX7_node_r4)))) [(32, 14, 1), (8, 18, 1), (7, 16, 1), (6, 5, 1), (31, 7, 1), (7, 20, 1), (31, 8, 1), (7, 17, 1), (25, 1, 1), (12, 3, 1), (25, 0, 1), (10, 0, 2), (0, 5, 1), (10, 2, 1), (13, 22, 2), (14, 0, 2), (5, 20, 1), (9, 20, 4), (8, 19, 1), (25, 6, 4), (6, 1, 1), (6, 0, 1), (6, 2, 3), (25, 10, 8), (5, 21, 1), (25, 18, 6), (26, 0, 2), (11, 19, 4), (5, 19, 1), (26, 10, 4), (25, 2, 4), (24, 20, 4), (26, 2, 8), (5, 23, 1), (14, 2, 4)] rfl (by decide +kernel)) gbL_wsX70
set_option maxRecDepth 20000 in
theorem gL_law_X7_node : GoodIn wsL_law (wsV RL 101 RX7 yX7_node wsX7_node) := goodIn_app (goodIn_pc pcL_in _ [(32, 11, 3), (0, 5, 1)] rfl (by decide +kernel)) ggL_law_X7_node
set_option maxRecDepth 20000 in
theorem ggL_law_X6_second : GoodIn wsL_law wsX6_second := goodIn_w (goodIn_w (goodIn_w (goodIn_w (goodIn_w (goodIn_pc pcL_in (.code yX6_second cX6_second 6 (some .int) :: (wsX6_second_r1 ++ (wsX6_second_r2 ++ (wsX6_second_r3 ++ (wsX6_second_r4 ++ (wsX6_second_r5 ++ (wsX6_second_r6 ++ (wsX6_second_r7 ++ wsX6_second_r8)))))))) [(32, 18, 2), (1, 6, 1), (1, 21, 1), (0, 13, 1), (11, 2, 1), (32, 20, 1), (9, 1, 3), (0, 2, 1), (9, 4, 1), (0, 14, 1), (9, 5, 3), (5, 11, 4), (32, 21, 1), (17, 9, 2), (1, 19, 1), (17, 11, 1), (4, 22, 1), (4, 17, 1), (4, 11, 4), (4, 16, 1), (5, 9, 1), (17, 12, 4), (1, 4, 1), (17, 16, 3), (2, 13, 1), (2, 11, 2), (2, 14, 1), (17, 19, 3), (1, 12, 1), (17, 22, 1), (2, 20, 1), (3, 4, 1), (2, 23, 1), (17, 23, 1), (18, 0, 2), (3, 7, 1), (18, 2, 1), (3, 11, 2), (18, 3, 1), (4, 19, 3), (18, 4, 4), (3, 13, 3), (18, 8, 16), (19, 0, 22), (3, 2, 1), (19, 22, 2), (20, 0, 2), (3, 17, 2), (20, 2, 10), (5, 0, 1), (20, 12, 1), (5, 2, 2), (20, 13, 1), (5, 4, 1), (20, 14, 1), (5, 5, 2), (5, 8, 1), (32, 22, 1), (23, 1, 3), (32, 23, 1), (21, 22, 2), (22, 0, 20), (33, 0, 1), (23, 5, 3), (4, 10, 1), (23, 8, 4), (33, 1, 2), (29, 11, 1), (24, 3, 3)] rfl (by decide +kernel)) gbL_wsX60) gbL_wsX50) gbL_wsX10) gbL_wsX00) gbL_wsX20
set_option maxRecDepth 20000 in
theorem gL_law_X6_second : GoodIn wsL_law (wsV RL 102 RX6 yX6_second wsX6_second) := goodIn_app (goodIn_pc pcL_in _ [(32, 15, 3), (0, 2, 1)] rfl (by decide +kernel)) ggL_law_X6_second
set_option maxRecDepth 20000 in
theorem ggL_law_X7_second : GoodIn wsL_law wsX7_second := goodIn_w (goodIn_pc pcL_in (.code yX7_second cX7_second 8 (some .int) :: (wsX7_second_r1 ++ (wsX7_second_r2 ++ (wsX7_second_r3 ++ (wsX7_second_r4 ++ (wsX7_second_r5 ++ wsX7_second_r6)))))) [(33, 6, 1), (8, 18, 1), (33, 7, 1), (24, 19, 1), (6, 16, 1), (5, 19, 1), (7, 18, 1), (6, 19, 1), (12, 3, 1), (33, 8, 1), (7, 19, 1), (6, 17, 1), (9, 20, 3), (0, 5, 1), (9, 23, 1), (8, 19, 1), (10, 0, 3), (33, 9, 4), (24, 13, 1), (24, 18, 1), (7, 21, 3), (6, 18, 1), (8, 0, 2), (6, 20, 1), (8, 2, 1), (6, 21, 1), (8, 3, 1), (6, 22, 1), (8, 4, 1), (6, 23, 1), (8, 5, 1), (7, 0, 1), (8, 6, 1), (7, 1, 1), (8, 7, 1), (7, 2, 1), (8, 8, 1), (7, 3, 1), (8, 9, 1), (33, 13, 6), (24, 14, 4), (7, 20, 1), (24, 20, 4), (25, 0, 2), (5, 21, 1), (25, 2, 4), (5, 20, 1), (25, 6, 4), (6, 1, 1), (6, 0, 1), (6, 2, 3), (25, 10, 14), (26, 0, 10), (5, 23, 1), (14, 2, 4), (26, 10, 8), (26, 23, 1), (27, 0, 7), (27, 23, 1), (28, 0, 3), (27, 11, 8)] rfl (by decide +kernel)) gbL_wsX70
set_option maxRecDepth 20000 in
theorem gL_law_X7_second : GoodIn wsL_law (wsV RL 105 RX7 yX7_second wsX7_second) := goodIn_app (goodIn_pc pcL_in _ [(33, 3, 3), (0, 5, 1)] rfl (by decide +kernel)) ggL_law_X7_second
set_option maxRecDepth 20000 in
theorem ggL_law_X6_row : GoodIn wsL_law wsX6_row := goodIn_w (goodIn_pc pcL_in (.code yX6_row cX6_row 2 (some .int) :: [.fieldLink RX6 52 "CrateHelpers" "secondRow" "[I", .methodLink RX6 99 yX6_isWithin, .static yX6_isWithin, .initialized RX6, .code yX6_isWithin cX6_isWithin 3 (some .boolean)]) [(33, 22, 1), (1, 6, 1), (9, 5, 2), (0, 2, 1), (9, 7, 1)] rfl (by decide +kernel)) gbL_wsX60
set_option maxRecDepth 20000 in
theorem gL_law_X6_row : GoodIn wsL_law (wsV RL 106 RX6 yX6_row wsX6_row) := goodIn_app (goodIn_pc pcL_in _ [(33, 19, 3), (0, 2, 1)] rfl (by decide +kernel)) ggL_law_X6_row
set_option maxRecDepth 20000 in
theorem ggL_law_X7_row : GoodIn wsL_law wsX7_row := goodIn_w (goodIn_pc pcL_in (.code yX7_row cX7_row 2 (some .int) :: [.fieldLink RX7 201 "CrateHelpersModel" "thrown" "I", .fieldLink RX7 153 "CrateHelpersModel" "secondMany" "I", .fieldLink RX7 156 "CrateHelpersModel" "secondRow" "[I", .methodLink RX7 207 yX7_in, .static yX7_in, .initialized RX7, .code yX7_in cX7_in 3 (some .boolean)]) [(34, 2, 1), (8, 18, 1), (7, 18, 2), (10, 0, 2), (0, 5, 1), (10, 2, 1)] rfl (by decide +kernel)) gbL_wsX70
set_option maxRecDepth 20000 in
theorem gL_law_X7_row : GoodIn wsL_law (wsV RL 109 RX7 yX7_row wsX7_row) := goodIn_app (goodIn_pc pcL_in _ [(33, 23, 1), (34, 0, 2), (0, 5, 1)] rfl (by decide +kernel)) ggL_law_X7_row
set_option maxRecDepth 20000 in
theorem ggL_law_X6_same : GoodIn wsL_law wsX6_same := goodIn_w (goodIn_w (goodIn_w (goodIn_w (goodIn_w (goodIn_w (goodIn_w (goodIn_pc pcL_in (.code yX6_same cX6_same 6 (some .int) :: (wsX6_same_r1 ++ (wsX6_same_r2 ++ (wsX6_same_r3 ++ (wsX6_same_r4 ++ (wsX6_same_r5 ++ (wsX6_same_r6 ++ (wsX6_same_r7 ++ (wsX6_same_r8 ++ (wsX6_same_r9 ++ (wsX6_same_r10 ++ wsX6_same_r11))))))))))) [(34, 6, 1), (0, 20, 1), (1, 7, 1), (1, 16, 1), (0, 13, 1), (0, 19, 1), (34, 7, 1), (1, 8, 2), (9, 1, 3), (0, 2, 1), (9, 4, 1), (0, 14, 1), (9, 5, 3), (14, 23, 1), (15, 0, 2), (0, 17, 1), (15, 2, 1), (2, 1, 1), (2, 3, 1), (15, 3, 1), (5, 12, 3), (17, 1, 3), (1, 15, 1), (17, 4, 1), (4, 5, 1), (3, 23, 1), (4, 0, 1), (17, 5, 1), (4, 1, 2), (4, 4, 1), (17, 6, 5), (1, 19, 1), (17, 11, 1), (4, 22, 1), (4, 17, 1), (4, 11, 4), (4, 16, 1), (5, 9, 1), (17, 12, 4), (1, 4, 1), (17, 16, 3), (2, 13, 1), (2, 11, 2), (2, 14, 1), (17, 19, 3), (1, 12, 1), (17, 22, 1), (2, 20, 1), (3, 4, 1), (2, 23, 1), (17, 23, 1), (18, 0, 2), (3, 7, 1), (18, 2, 1), (3, 11, 2), (18, 3, 1), (4, 19, 3), (18, 4, 4), (3, 13, 3), (18, 8, 16), (19, 0, 22), (3, 2, 1), (19, 22, 2), (20, 0, 2), (3, 17, 2), (20, 2, 10), (5, 0, 1), (20, 12, 1), (5, 2, 2), (20, 13, 1), (5, 4, 1), (20, 14, 1), (5, 5, 2), (5, 8, 1), (20, 15, 9), (2, 2, 1), (2, 4, 1), (21, 0, 24), (22, 0, 24), (23, 0, 8), (4, 10, 1), (23, 8, 5), (23, 20, 4), (24, 0, 7), (34, 8, 4), (32, 2, 3)] rfl (by decide +kernel)) gbL_wsX60) gbL_wsX40) gbL_wsX30) gbL_wsX50) gbL_wsX10) gbL_wsX00) gbL_wsX20
set_option maxRecDepth 20000 in
theorem gL_law_X6_same : GoodIn wsL_law (wsV RL 110 RX6 yX6_same wsX6_same) := goodIn_app (goodIn_pc pcL_in _ [(34, 3, 3), (0, 2, 1)] rfl (by decide +kernel)) ggL_law_X6_same
set_option maxRecDepth 20000 in
theorem ggL_law_X7_same : GoodIn wsL_law wsX7_same := goodIn_w (goodIn_pc pcL_in (.code yX7_same cX7_same 3 (some .int) :: [.fieldLink RX7 201 "CrateHelpersModel" "thrown" "I", .fieldLink RX7 62 "CrateHelpersModel" "under" "I", .methodLink RX7 214 yX7_isProblem, .instanceMethod yX7_isProblem, .selects RX7 yX7_isProblem yX7_isProblem, .initialized RX7, .code yX7_isProblem cX7_isProblem 2 (some .boolean), .fieldLink RX7 204 "CrateHelpersModel" "problems" "I", .methodLink RX7 207 yX7_in, .static yX7_in, .code yX7_in cX7_in 3 (some .boolean)]) [(34, 15, 1), (8, 18, 1), (6, 12, 1), (9, 20, 3), (0, 5, 1), (9, 23, 1), (8, 19, 1), (10, 0, 3)] rfl (by decide +kernel)) gbL_wsX70
set_option maxRecDepth 20000 in
theorem gL_law_X7_same : GoodIn wsL_law (wsV RL 113 RX7 yX7_same wsX7_same) := goodIn_app (goodIn_pc pcL_in _ [(34, 12, 3), (0, 5, 1)] rfl (by decide +kernel)) ggL_law_X7_same
set_option maxRecDepth 20000 in
theorem ggL_law_X6_count : GoodIn wsL_law wsX6_count := goodIn_w (goodIn_w (goodIn_w (goodIn_w (goodIn_pc pcL_in (.code yX6_count cX6_count 3 (some .int) :: [.fieldLink RX6 29 "CrateHelpers" "underWay" "I", .fieldLink RX6 15 "CrateHelpers" "problemCount" "I", .fieldLink RX6 26 "CrateHelpers" "nodeLimit" "I", .fieldLink RX6 22 "CrateHelpers" "team" "LCrateHelpers$Team;", .fieldLink RX6 158 "CrateHelpers$Team" "size" "I", .fieldLink RX6 168 "CrateHelpers$Team" "scheduled" "I", .fieldLink RX6 73 "CrateHelpers" "solving" "LCrateHelpers$Solving;", .fieldLink RX6 294 "CrateHelpers$Solving" "tree" "LCrateHelpers$Tree;", .fieldLink RX6 297 "CrateHelpers$Tree" "known" "I", .fieldLink RX6 300 "CrateHelpers$Tree" "done" "I", .fieldLink RX6 192 "CrateHelpers$Tree" "taken" "I"]) [(34, 19, 1), (0, 20, 1), (0, 14, 1), (0, 19, 1), (0, 18, 1), (14, 22, 1), (15, 21, 1), (1, 16, 1), (23, 19, 1), (34, 20, 2), (29, 7, 1)] rfl (by decide +kernel)) gbL_wsX60) gbL_wsX40) gbL_wsX30) gbL_wsX50
set_option maxRecDepth 20000 in
theorem gL_law_X6_count : GoodIn wsL_law (wsV RL 114 RX6 yX6_count wsX6_count) := goodIn_app (goodIn_pc pcL_in _ [(34, 16, 3), (0, 2, 1)] rfl (by decide +kernel)) ggL_law_X6_count
set_option maxRecDepth 20000 in
theorem ggL_law_X7_count : GoodIn wsL_law wsX7_count := goodIn_w (goodIn_pc pcL_in (.code yX7_count cX7_count 2 (some .int) :: [.fieldLink RX7 201 "CrateHelpersModel" "thrown" "I", .fieldLink RX7 204 "CrateHelpersModel" "problems" "I", .fieldLink RX7 246 "CrateHelpersModel" "limit" "I", .fieldLink RX7 43 "CrateHelpersModel" "helpers" "I", .fieldLink RX7 243 "CrateHelpersModel" "scheduled" "I", .fieldLink RX7 62 "CrateHelpersModel" "under" "I", .fieldLink RX7 284 "CrateHelpersModel" "nodes" "I", .fieldLink RX7 287 "CrateHelpersModel" "done" "I", .fieldLink RX7 303 "CrateHelpersModel" "taken" "I"]) [(35, 1, 1), (8, 18, 2), (16, 20, 1), (6, 6, 1), (16, 3, 1), (6, 12, 1), (24, 13, 1), (24, 18, 2)] rfl (by decide +kernel)) gbL_wsX70
set_option maxRecDepth 20000 in
theorem gL_law_X7_count : GoodIn wsL_law (wsV RL 117 RX7 yX7_count wsX7_count) := goodIn_app (goodIn_pc pcL_in _ [(34, 22, 2), (35, 0, 1), (0, 5, 1)] rfl (by decide +kernel)) ggL_law_X7_count
set_option maxRecDepth 20000 in
theorem ggL_law_X6_about : GoodIn wsL_law wsX6_about := goodIn_w (goodIn_w (goodIn_w (goodIn_pc pcL_in (.code yX6_about cX6_about 5 (some .int) :: (wsX6_about_r1 ++ wsX6_about_r2)) [(35, 5, 1), (0, 13, 1), (9, 0, 1), (12, 8, 1), (13, 2, 1), (31, 21, 1), (35, 6, 1), (9, 1, 3), (0, 2, 1), (9, 4, 1), (0, 14, 1), (9, 5, 3), (10, 22, 2), (11, 0, 2), (1, 10, 1), (11, 2, 1), (11, 7, 4), (13, 4, 3), (1, 12, 1), (13, 7, 1), (2, 20, 1), (35, 7, 3), (3, 7, 1), (35, 10, 1), (3, 11, 3), (13, 8, 1), (10, 19, 3), (2, 19, 1)] rfl (by decide +kernel)) gbL_wsX60) gbL_wsX10) gbL_wsX20
set_option maxRecDepth 20000 in
theorem gL_law_X6_about : GoodIn wsL_law (wsV RL 118 RX6 yX6_about wsX6_about) := goodIn_app (goodIn_pc pcL_in _ [(35, 2, 3), (0, 2, 1)] rfl (by decide +kernel)) ggL_law_X6_about
set_option maxRecDepth 20000 in
theorem ggL_law_X7_about : GoodIn wsL_law wsX7_about := goodIn_w (goodIn_pc pcL_in (.code yX7_about cX7_about 4 (some .int) :: (wsX7_about_r1 ++ wsX7_about_r2)) [(35, 14, 1), (8, 18, 1), (11, 15, 1), (5, 19, 2), (6, 0, 3), (5, 21, 2), (9, 20, 3), (0, 5, 1), (9, 23, 1), (8, 19, 1), (10, 0, 3), (11, 23, 1), (12, 0, 4), (13, 22, 2), (14, 0, 2)] rfl (by decide +kernel)) gbL_wsX70
set_option maxRecDepth 20000 in
theorem gL_law_X7_about : GoodIn wsL_law (wsV RL 121 RX7 yX7_about wsX7_about) := goodIn_app (goodIn_pc pcL_in _ [(35, 11, 3), (0, 5, 1)] rfl (by decide +kernel)) ggL_law_X7_about
set_option maxRecDepth 20000 in
theorem ggL_law_X6_costs : GoodIn wsL_law wsX6_costs := goodIn_w (goodIn_w (goodIn_pc pcL_in (.code yX6_costs cX6_costs 4 (some .int) :: (wsX6_costs_r1 ++ wsX6_costs_r2)) [(35, 18, 1), (0, 13, 1), (35, 19, 1), (9, 1, 3), (0, 2, 1), (9, 4, 1), (0, 14, 1), (9, 5, 3), (10, 14, 3), (1, 12, 1), (10, 17, 1), (2, 23, 1), (10, 18, 4), (2, 19, 1), (10, 22, 2), (11, 0, 2), (1, 10, 1), (11, 2, 1), (11, 7, 4)] rfl (by decide +kernel)) gbL_wsX60) gbL_wsX10
set_option maxRecDepth 20000 in
theorem gL_law_X6_costs : GoodIn wsL_law (wsV RL 122 RX6 yX6_costs wsX6_costs) := goodIn_app (goodIn_pc pcL_in _ [(35, 15, 3), (0, 2, 1)] rfl (by decide +kernel)) ggL_law_X6_costs
set_option maxRecDepth 20000 in
theorem ggL_law_X7_costs : GoodIn wsL_law wsX7_costs := goodIn_w (goodIn_pc pcL_in (.code yX7_costs cX7_costs 4 (some .int) :: (wsX7_costs_r1 ++ wsX7_costs_r2)) [(35, 23, 1), (8, 18, 1), (11, 15, 1), (11, 19, 3), (0, 5, 1), (11, 22, 1), (5, 19, 1), (5, 21, 1), (9, 20, 4), (8, 19, 1), (10, 0, 3), (26, 6, 4), (5, 23, 1), (11, 23, 1), (12, 0, 4)] rfl (by decide +kernel)) gbL_wsX70
set_option maxRecDepth 20000 in
theorem gL_law_X7_costs : GoodIn wsL_law (wsV RL 125 RX7 yX7_costs wsX7_costs) := goodIn_app (goodIn_pc pcL_in _ [(35, 20, 3), (0, 5, 1)] rfl (by decide +kernel)) ggL_law_X7_costs
set_option maxRecDepth 20000 in
theorem ggL_law_X6_status : GoodIn wsL_law wsX6_status := goodIn_w (goodIn_pc pcL_in (.code yX6_status cX6_status 1 (some .int) :: [.fieldLink RX6 64 "CrateHelpers" "refusedBy" "I"]) [(36, 3, 1), (1, 10, 1)] rfl (by decide +kernel)) gbL_wsX60
set_option maxRecDepth 20000 in
theorem gL_law_X6_status : GoodIn wsL_law (wsV RL 126 RX6 yX6_status wsX6_status) := goodIn_app (goodIn_pc pcL_in _ [(36, 0, 3), (0, 2, 1)] rfl (by decide +kernel)) ggL_law_X6_status
set_option maxRecDepth 20000 in
theorem ggL_law_X7_status : GoodIn wsL_law wsX7_status := goodIn_w (goodIn_pc pcL_in (.code yX7_status cX7_status 1 (some .int) :: [.fieldLink RX7 201 "CrateHelpersModel" "thrown" "I", .fieldLink RX7 221 "CrateHelpersModel" "status" "I"]) [(36, 7, 1), (8, 18, 1), (11, 15, 1)] rfl (by decide +kernel)) gbL_wsX70
set_option maxRecDepth 20000 in
theorem gL_law_X7_status : GoodIn wsL_law (wsV RL 129 RX7 yX7_status wsX7_status) := goodIn_app (goodIn_pc pcL_in _ [(36, 4, 3), (0, 5, 1)] rfl (by decide +kernel)) ggL_law_X7_status
theorem dL_law_0 : decode cL_law 0 = .ok (.new 7, 3) := by decide +kernel
theorem dL_law_3 : decode cL_law 3 = .ok (.dup, 1) := by decide +kernel
theorem dL_law_4 : decode cL_law 4 = .ok (.invokespecial 9, 3) := by decide +kernel
theorem dL_law_7 : decode cL_law 7 = .ok (.astore_n 1, 1) := by decide +kernel
theorem dL_law_8 : decode cL_law 8 = .ok (.new 10, 3) := by decide +kernel
theorem dL_law_11 : decode cL_law 11 = .ok (.dup, 1) := by decide +kernel
theorem dL_law_12 : decode cL_law 12 = .ok (.invokespecial 12, 3) := by decide +kernel
theorem dL_law_15 : decode cL_law 15 = .ok (.astore_n 2, 1) := by decide +kernel
theorem dL_law_16 : decode cL_law 16 = .ok (.iconst 0, 1) := by decide +kernel
theorem dL_law_17 : decode cL_law 17 = .ok (.istore_n 3, 1) := by decide +kernel
theorem dL_law_18 : decode cL_law 18 = .ok (.iload_n 3, 1) := by decide +kernel
theorem dL_law_19 : decode cL_law 19 = .ok (.aload_n 0, 1) := by decide +kernel
theorem dL_law_20 : decode cL_law 20 = .ok (.arraylength, 1) := by decide +kernel
theorem dL_law_21 : decode cL_law 21 = .ok (.iconst 5, 1) := by decide +kernel
theorem dL_law_22 : decode cL_law 22 = .ok (.isub, 1) := by decide +kernel
theorem dL_law_23 : decode cL_law 23 = .ok (.if_icmp .gt 1027, 3) := by decide +kernel
theorem dL_law_26 : decode cL_law 26 = .ok (.aload_n 0, 1) := by decide +kernel
theorem dL_law_27 : decode cL_law 27 = .ok (.iload_n 3, 1) := by decide +kernel
theorem dL_law_28 : decode cL_law 28 = .ok (.iaload, 1) := by decide +kernel
theorem dL_law_29 : decode cL_law 29 = .ok (.bipush 31, 2) := by decide +kernel
theorem dL_law_31 : decode cL_law 31 = .ok (.iand, 1) := by decide +kernel
theorem dL_law_32 : decode cL_law 32 = .ok (.tableswitch 1012 0 27 #[128, 141, 184, 237, 280, 333, 376, 399, 432, 455, 468, 491, 524, 537, 570, 603, 636, 679, 712, 735, 758, 801, 834, 857, 890, 913, 956, 999], 128) := by decide +kernel
theorem dL_law_160 : decode cL_law 160 = .ok (.aload_n 1, 1) := by decide +kernel
theorem dL_law_161 : decode cL_law 161 = .ok (.invokevirtual 13, 3) := by decide +kernel
theorem dL_law_164 : decode cL_law 164 = .ok (.pop, 1) := by decide +kernel
theorem dL_law_165 : decode cL_law 165 = .ok (.aload_n 2, 1) := by decide +kernel
theorem dL_law_166 : decode cL_law 166 = .ok (.invokevirtual 17, 3) := by decide +kernel
theorem dL_law_169 : decode cL_law 169 = .ok (.pop, 1) := by decide +kernel
theorem dL_law_170 : decode cL_law 170 = .ok (.goto 874, 3) := by decide +kernel
theorem dL_law_173 : decode cL_law 173 = .ok (.aload_n 1, 1) := by decide +kernel
theorem dL_law_174 : decode cL_law 174 = .ok (.aload_n 0, 1) := by decide +kernel
theorem dL_law_175 : decode cL_law 175 = .ok (.iload_n 3, 1) := by decide +kernel
theorem dL_law_176 : decode cL_law 176 = .ok (.iconst 1, 1) := by decide +kernel
theorem dL_law_177 : decode cL_law 177 = .ok (.iadd, 1) := by decide +kernel
theorem dL_law_178 : decode cL_law 178 = .ok (.iaload, 1) := by decide +kernel
theorem dL_law_179 : decode cL_law 179 = .ok (.aload_n 0, 1) := by decide +kernel
theorem dL_law_180 : decode cL_law 180 = .ok (.iload_n 3, 1) := by decide +kernel
theorem dL_law_181 : decode cL_law 181 = .ok (.iconst 2, 1) := by decide +kernel
theorem dL_law_182 : decode cL_law 182 = .ok (.iadd, 1) := by decide +kernel
theorem dL_law_183 : decode cL_law 183 = .ok (.iaload, 1) := by decide +kernel
theorem dL_law_184 : decode cL_law 184 = .ok (.aload_n 0, 1) := by decide +kernel
theorem dL_law_185 : decode cL_law 185 = .ok (.iload_n 3, 1) := by decide +kernel
theorem dL_law_186 : decode cL_law 186 = .ok (.iconst 3, 1) := by decide +kernel
theorem dL_law_187 : decode cL_law 187 = .ok (.iadd, 1) := by decide +kernel
theorem dL_law_188 : decode cL_law 188 = .ok (.iaload, 1) := by decide +kernel
theorem dL_law_189 : decode cL_law 189 = .ok (.invokevirtual 18, 3) := by decide +kernel
theorem dL_law_192 : decode cL_law 192 = .ok (.pop, 1) := by decide +kernel
theorem dL_law_193 : decode cL_law 193 = .ok (.aload_n 2, 1) := by decide +kernel
theorem dL_law_194 : decode cL_law 194 = .ok (.aload_n 0, 1) := by decide +kernel
theorem dL_law_195 : decode cL_law 195 = .ok (.iload_n 3, 1) := by decide +kernel
theorem dL_law_196 : decode cL_law 196 = .ok (.iconst 1, 1) := by decide +kernel
theorem dL_law_197 : decode cL_law 197 = .ok (.iadd, 1) := by decide +kernel
theorem dL_law_198 : decode cL_law 198 = .ok (.iaload, 1) := by decide +kernel
theorem dL_law_199 : decode cL_law 199 = .ok (.aload_n 0, 1) := by decide +kernel
theorem dL_law_200 : decode cL_law 200 = .ok (.iload_n 3, 1) := by decide +kernel
theorem dL_law_201 : decode cL_law 201 = .ok (.iconst 2, 1) := by decide +kernel
theorem dL_law_202 : decode cL_law 202 = .ok (.iadd, 1) := by decide +kernel
theorem dL_law_203 : decode cL_law 203 = .ok (.iaload, 1) := by decide +kernel
theorem dL_law_204 : decode cL_law 204 = .ok (.aload_n 0, 1) := by decide +kernel
theorem dL_law_205 : decode cL_law 205 = .ok (.iload_n 3, 1) := by decide +kernel
theorem dL_law_206 : decode cL_law 206 = .ok (.iconst 3, 1) := by decide +kernel
theorem dL_law_207 : decode cL_law 207 = .ok (.iadd, 1) := by decide +kernel
theorem dL_law_208 : decode cL_law 208 = .ok (.iaload, 1) := by decide +kernel
theorem dL_law_209 : decode cL_law 209 = .ok (.invokevirtual 22, 3) := by decide +kernel
theorem dL_law_212 : decode cL_law 212 = .ok (.pop, 1) := by decide +kernel
theorem dL_law_213 : decode cL_law 213 = .ok (.goto 831, 3) := by decide +kernel
theorem dL_law_216 : decode cL_law 216 = .ok (.aload_n 1, 1) := by decide +kernel
theorem dL_law_217 : decode cL_law 217 = .ok (.aload_n 0, 1) := by decide +kernel
theorem dL_law_218 : decode cL_law 218 = .ok (.iload_n 3, 1) := by decide +kernel
theorem dL_law_219 : decode cL_law 219 = .ok (.iconst 1, 1) := by decide +kernel
theorem dL_law_220 : decode cL_law 220 = .ok (.iadd, 1) := by decide +kernel
theorem dL_law_221 : decode cL_law 221 = .ok (.iaload, 1) := by decide +kernel
theorem dL_law_222 : decode cL_law 222 = .ok (.aload_n 0, 1) := by decide +kernel
theorem dL_law_223 : decode cL_law 223 = .ok (.iload_n 3, 1) := by decide +kernel
theorem dL_law_224 : decode cL_law 224 = .ok (.iconst 2, 1) := by decide +kernel
theorem dL_law_225 : decode cL_law 225 = .ok (.iadd, 1) := by decide +kernel
theorem dL_law_226 : decode cL_law 226 = .ok (.iaload, 1) := by decide +kernel
theorem dL_law_227 : decode cL_law 227 = .ok (.aload_n 0, 1) := by decide +kernel
theorem dL_law_228 : decode cL_law 228 = .ok (.iload_n 3, 1) := by decide +kernel
theorem dL_law_229 : decode cL_law 229 = .ok (.iconst 3, 1) := by decide +kernel
theorem dL_law_230 : decode cL_law 230 = .ok (.iadd, 1) := by decide +kernel
theorem dL_law_231 : decode cL_law 231 = .ok (.iaload, 1) := by decide +kernel
theorem dL_law_232 : decode cL_law 232 = .ok (.aload_n 0, 1) := by decide +kernel
theorem dL_law_233 : decode cL_law 233 = .ok (.iload_n 3, 1) := by decide +kernel
theorem dL_law_234 : decode cL_law 234 = .ok (.iconst 4, 1) := by decide +kernel
theorem dL_law_235 : decode cL_law 235 = .ok (.iadd, 1) := by decide +kernel
theorem dL_law_236 : decode cL_law 236 = .ok (.iaload, 1) := by decide +kernel
theorem dL_law_237 : decode cL_law 237 = .ok (.invokevirtual 23, 3) := by decide +kernel
theorem dL_law_240 : decode cL_law 240 = .ok (.pop, 1) := by decide +kernel
theorem dL_law_241 : decode cL_law 241 = .ok (.aload_n 2, 1) := by decide +kernel
theorem dL_law_242 : decode cL_law 242 = .ok (.aload_n 0, 1) := by decide +kernel
theorem dL_law_243 : decode cL_law 243 = .ok (.iload_n 3, 1) := by decide +kernel
theorem dL_law_244 : decode cL_law 244 = .ok (.iconst 1, 1) := by decide +kernel
theorem dL_law_245 : decode cL_law 245 = .ok (.iadd, 1) := by decide +kernel
theorem dL_law_246 : decode cL_law 246 = .ok (.iaload, 1) := by decide +kernel
theorem dL_law_247 : decode cL_law 247 = .ok (.aload_n 0, 1) := by decide +kernel
theorem dL_law_248 : decode cL_law 248 = .ok (.iload_n 3, 1) := by decide +kernel
theorem dL_law_249 : decode cL_law 249 = .ok (.iconst 2, 1) := by decide +kernel
theorem dL_law_250 : decode cL_law 250 = .ok (.iadd, 1) := by decide +kernel
theorem dL_law_251 : decode cL_law 251 = .ok (.iaload, 1) := by decide +kernel
theorem dL_law_252 : decode cL_law 252 = .ok (.aload_n 0, 1) := by decide +kernel
theorem dL_law_253 : decode cL_law 253 = .ok (.iload_n 3, 1) := by decide +kernel
theorem dL_law_254 : decode cL_law 254 = .ok (.iconst 3, 1) := by decide +kernel
theorem dL_law_255 : decode cL_law 255 = .ok (.iadd, 1) := by decide +kernel
theorem dL_law_256 : decode cL_law 256 = .ok (.iaload, 1) := by decide +kernel
theorem dL_law_257 : decode cL_law 257 = .ok (.aload_n 0, 1) := by decide +kernel
theorem dL_law_258 : decode cL_law 258 = .ok (.iload_n 3, 1) := by decide +kernel
theorem dL_law_259 : decode cL_law 259 = .ok (.iconst 4, 1) := by decide +kernel
theorem dL_law_260 : decode cL_law 260 = .ok (.iadd, 1) := by decide +kernel
theorem dL_law_261 : decode cL_law 261 = .ok (.iaload, 1) := by decide +kernel
theorem dL_law_262 : decode cL_law 262 = .ok (.invokevirtual 27, 3) := by decide +kernel
theorem dL_law_265 : decode cL_law 265 = .ok (.pop, 1) := by decide +kernel
theorem dL_law_266 : decode cL_law 266 = .ok (.goto 778, 3) := by decide +kernel
theorem dL_law_269 : decode cL_law 269 = .ok (.aload_n 1, 1) := by decide +kernel
theorem dL_law_270 : decode cL_law 270 = .ok (.aload_n 0, 1) := by decide +kernel
theorem dL_law_271 : decode cL_law 271 = .ok (.iload_n 3, 1) := by decide +kernel
theorem dL_law_272 : decode cL_law 272 = .ok (.iconst 1, 1) := by decide +kernel
theorem dL_law_273 : decode cL_law 273 = .ok (.iadd, 1) := by decide +kernel
theorem dL_law_274 : decode cL_law 274 = .ok (.iaload, 1) := by decide +kernel
theorem dL_law_275 : decode cL_law 275 = .ok (.aload_n 0, 1) := by decide +kernel
theorem dL_law_276 : decode cL_law 276 = .ok (.iload_n 3, 1) := by decide +kernel
theorem dL_law_277 : decode cL_law 277 = .ok (.iconst 2, 1) := by decide +kernel
theorem dL_law_278 : decode cL_law 278 = .ok (.iadd, 1) := by decide +kernel
theorem dL_law_279 : decode cL_law 279 = .ok (.iaload, 1) := by decide +kernel
theorem dL_law_280 : decode cL_law 280 = .ok (.aload_n 0, 1) := by decide +kernel
theorem dL_law_281 : decode cL_law 281 = .ok (.iload_n 3, 1) := by decide +kernel
theorem dL_law_282 : decode cL_law 282 = .ok (.iconst 3, 1) := by decide +kernel
theorem dL_law_283 : decode cL_law 283 = .ok (.iadd, 1) := by decide +kernel
theorem dL_law_284 : decode cL_law 284 = .ok (.iaload, 1) := by decide +kernel
theorem dL_law_285 : decode cL_law 285 = .ok (.invokevirtual 28, 3) := by decide +kernel
theorem dL_law_288 : decode cL_law 288 = .ok (.pop, 1) := by decide +kernel
theorem dL_law_289 : decode cL_law 289 = .ok (.aload_n 2, 1) := by decide +kernel
theorem dL_law_290 : decode cL_law 290 = .ok (.aload_n 0, 1) := by decide +kernel
theorem dL_law_291 : decode cL_law 291 = .ok (.iload_n 3, 1) := by decide +kernel
theorem dL_law_292 : decode cL_law 292 = .ok (.iconst 1, 1) := by decide +kernel
theorem dL_law_293 : decode cL_law 293 = .ok (.iadd, 1) := by decide +kernel
theorem dL_law_294 : decode cL_law 294 = .ok (.iaload, 1) := by decide +kernel
theorem dL_law_295 : decode cL_law 295 = .ok (.aload_n 0, 1) := by decide +kernel
theorem dL_law_296 : decode cL_law 296 = .ok (.iload_n 3, 1) := by decide +kernel
theorem dL_law_297 : decode cL_law 297 = .ok (.iconst 2, 1) := by decide +kernel
theorem dL_law_298 : decode cL_law 298 = .ok (.iadd, 1) := by decide +kernel
theorem dL_law_299 : decode cL_law 299 = .ok (.iaload, 1) := by decide +kernel
theorem dL_law_300 : decode cL_law 300 = .ok (.aload_n 0, 1) := by decide +kernel
theorem dL_law_301 : decode cL_law 301 = .ok (.iload_n 3, 1) := by decide +kernel
theorem dL_law_302 : decode cL_law 302 = .ok (.iconst 3, 1) := by decide +kernel
theorem dL_law_303 : decode cL_law 303 = .ok (.iadd, 1) := by decide +kernel
theorem dL_law_304 : decode cL_law 304 = .ok (.iaload, 1) := by decide +kernel
theorem dL_law_305 : decode cL_law 305 = .ok (.invokevirtual 31, 3) := by decide +kernel
theorem dL_law_308 : decode cL_law 308 = .ok (.pop, 1) := by decide +kernel
theorem dL_law_309 : decode cL_law 309 = .ok (.goto 735, 3) := by decide +kernel
theorem dL_law_312 : decode cL_law 312 = .ok (.aload_n 1, 1) := by decide +kernel
theorem dL_law_313 : decode cL_law 313 = .ok (.aload_n 0, 1) := by decide +kernel
theorem dL_law_314 : decode cL_law 314 = .ok (.iload_n 3, 1) := by decide +kernel
theorem dL_law_315 : decode cL_law 315 = .ok (.iconst 1, 1) := by decide +kernel
theorem dL_law_316 : decode cL_law 316 = .ok (.iadd, 1) := by decide +kernel
theorem dL_law_317 : decode cL_law 317 = .ok (.iaload, 1) := by decide +kernel
theorem dL_law_318 : decode cL_law 318 = .ok (.aload_n 0, 1) := by decide +kernel
theorem dL_law_319 : decode cL_law 319 = .ok (.iload_n 3, 1) := by decide +kernel
theorem dL_law_320 : decode cL_law 320 = .ok (.iconst 2, 1) := by decide +kernel
theorem dL_law_321 : decode cL_law 321 = .ok (.iadd, 1) := by decide +kernel
theorem dL_law_322 : decode cL_law 322 = .ok (.iaload, 1) := by decide +kernel
theorem dL_law_323 : decode cL_law 323 = .ok (.aload_n 0, 1) := by decide +kernel
theorem dL_law_324 : decode cL_law 324 = .ok (.iload_n 3, 1) := by decide +kernel
theorem dL_law_325 : decode cL_law 325 = .ok (.iconst 3, 1) := by decide +kernel
theorem dL_law_326 : decode cL_law 326 = .ok (.iadd, 1) := by decide +kernel
theorem dL_law_327 : decode cL_law 327 = .ok (.iaload, 1) := by decide +kernel
theorem dL_law_328 : decode cL_law 328 = .ok (.aload_n 0, 1) := by decide +kernel
theorem dL_law_329 : decode cL_law 329 = .ok (.iload_n 3, 1) := by decide +kernel
theorem dL_law_330 : decode cL_law 330 = .ok (.iconst 4, 1) := by decide +kernel
theorem dL_law_331 : decode cL_law 331 = .ok (.iadd, 1) := by decide +kernel
theorem dL_law_332 : decode cL_law 332 = .ok (.iaload, 1) := by decide +kernel
theorem dL_law_333 : decode cL_law 333 = .ok (.invokevirtual 32, 3) := by decide +kernel
theorem dL_law_336 : decode cL_law 336 = .ok (.pop, 1) := by decide +kernel
theorem dL_law_337 : decode cL_law 337 = .ok (.aload_n 2, 1) := by decide +kernel
theorem dL_law_338 : decode cL_law 338 = .ok (.aload_n 0, 1) := by decide +kernel
theorem dL_law_339 : decode cL_law 339 = .ok (.iload_n 3, 1) := by decide +kernel
theorem dL_law_340 : decode cL_law 340 = .ok (.iconst 1, 1) := by decide +kernel
theorem dL_law_341 : decode cL_law 341 = .ok (.iadd, 1) := by decide +kernel
theorem dL_law_342 : decode cL_law 342 = .ok (.iaload, 1) := by decide +kernel
theorem dL_law_343 : decode cL_law 343 = .ok (.aload_n 0, 1) := by decide +kernel
theorem dL_law_344 : decode cL_law 344 = .ok (.iload_n 3, 1) := by decide +kernel
theorem dL_law_345 : decode cL_law 345 = .ok (.iconst 2, 1) := by decide +kernel
theorem dL_law_346 : decode cL_law 346 = .ok (.iadd, 1) := by decide +kernel
theorem dL_law_347 : decode cL_law 347 = .ok (.iaload, 1) := by decide +kernel
theorem dL_law_348 : decode cL_law 348 = .ok (.aload_n 0, 1) := by decide +kernel
theorem dL_law_349 : decode cL_law 349 = .ok (.iload_n 3, 1) := by decide +kernel
theorem dL_law_350 : decode cL_law 350 = .ok (.iconst 3, 1) := by decide +kernel
theorem dL_law_351 : decode cL_law 351 = .ok (.iadd, 1) := by decide +kernel
theorem dL_law_352 : decode cL_law 352 = .ok (.iaload, 1) := by decide +kernel
theorem dL_law_353 : decode cL_law 353 = .ok (.aload_n 0, 1) := by decide +kernel
theorem dL_law_354 : decode cL_law 354 = .ok (.iload_n 3, 1) := by decide +kernel
theorem dL_law_355 : decode cL_law 355 = .ok (.iconst 4, 1) := by decide +kernel
theorem dL_law_356 : decode cL_law 356 = .ok (.iadd, 1) := by decide +kernel
theorem dL_law_357 : decode cL_law 357 = .ok (.iaload, 1) := by decide +kernel
theorem dL_law_358 : decode cL_law 358 = .ok (.invokevirtual 35, 3) := by decide +kernel
theorem dL_law_361 : decode cL_law 361 = .ok (.pop, 1) := by decide +kernel
theorem dL_law_362 : decode cL_law 362 = .ok (.goto 682, 3) := by decide +kernel
theorem dL_law_365 : decode cL_law 365 = .ok (.aload_n 1, 1) := by decide +kernel
theorem dL_law_366 : decode cL_law 366 = .ok (.aload_n 0, 1) := by decide +kernel
theorem dL_law_367 : decode cL_law 367 = .ok (.iload_n 3, 1) := by decide +kernel
theorem dL_law_368 : decode cL_law 368 = .ok (.iconst 1, 1) := by decide +kernel
theorem dL_law_369 : decode cL_law 369 = .ok (.iadd, 1) := by decide +kernel
theorem dL_law_370 : decode cL_law 370 = .ok (.iaload, 1) := by decide +kernel
theorem dL_law_371 : decode cL_law 371 = .ok (.aload_n 0, 1) := by decide +kernel
theorem dL_law_372 : decode cL_law 372 = .ok (.iload_n 3, 1) := by decide +kernel
theorem dL_law_373 : decode cL_law 373 = .ok (.iconst 2, 1) := by decide +kernel
theorem dL_law_374 : decode cL_law 374 = .ok (.iadd, 1) := by decide +kernel
theorem dL_law_375 : decode cL_law 375 = .ok (.iaload, 1) := by decide +kernel
theorem dL_law_376 : decode cL_law 376 = .ok (.aload_n 0, 1) := by decide +kernel
theorem dL_law_377 : decode cL_law 377 = .ok (.iload_n 3, 1) := by decide +kernel
theorem dL_law_378 : decode cL_law 378 = .ok (.iconst 3, 1) := by decide +kernel
theorem dL_law_379 : decode cL_law 379 = .ok (.iadd, 1) := by decide +kernel
theorem dL_law_380 : decode cL_law 380 = .ok (.iaload, 1) := by decide +kernel
theorem dL_law_381 : decode cL_law 381 = .ok (.invokevirtual 36, 3) := by decide +kernel
theorem dL_law_384 : decode cL_law 384 = .ok (.pop, 1) := by decide +kernel
theorem dL_law_385 : decode cL_law 385 = .ok (.aload_n 2, 1) := by decide +kernel
theorem dL_law_386 : decode cL_law 386 = .ok (.aload_n 0, 1) := by decide +kernel
theorem dL_law_387 : decode cL_law 387 = .ok (.iload_n 3, 1) := by decide +kernel
theorem dL_law_388 : decode cL_law 388 = .ok (.iconst 1, 1) := by decide +kernel
theorem dL_law_389 : decode cL_law 389 = .ok (.iadd, 1) := by decide +kernel
theorem dL_law_390 : decode cL_law 390 = .ok (.iaload, 1) := by decide +kernel
theorem dL_law_391 : decode cL_law 391 = .ok (.aload_n 0, 1) := by decide +kernel
theorem dL_law_392 : decode cL_law 392 = .ok (.iload_n 3, 1) := by decide +kernel
theorem dL_law_393 : decode cL_law 393 = .ok (.iconst 2, 1) := by decide +kernel
theorem dL_law_394 : decode cL_law 394 = .ok (.iadd, 1) := by decide +kernel
theorem dL_law_395 : decode cL_law 395 = .ok (.iaload, 1) := by decide +kernel
theorem dL_law_396 : decode cL_law 396 = .ok (.aload_n 0, 1) := by decide +kernel
theorem dL_law_397 : decode cL_law 397 = .ok (.iload_n 3, 1) := by decide +kernel
theorem dL_law_398 : decode cL_law 398 = .ok (.iconst 3, 1) := by decide +kernel
theorem dL_law_399 : decode cL_law 399 = .ok (.iadd, 1) := by decide +kernel
theorem dL_law_400 : decode cL_law 400 = .ok (.iaload, 1) := by decide +kernel
theorem dL_law_401 : decode cL_law 401 = .ok (.invokevirtual 39, 3) := by decide +kernel
theorem dL_law_404 : decode cL_law 404 = .ok (.pop, 1) := by decide +kernel
theorem dL_law_405 : decode cL_law 405 = .ok (.goto 639, 3) := by decide +kernel
theorem dL_law_408 : decode cL_law 408 = .ok (.aload_n 1, 1) := by decide +kernel
theorem dL_law_409 : decode cL_law 409 = .ok (.aload_n 0, 1) := by decide +kernel
theorem dL_law_410 : decode cL_law 410 = .ok (.iload_n 3, 1) := by decide +kernel
theorem dL_law_411 : decode cL_law 411 = .ok (.iconst 1, 1) := by decide +kernel
theorem dL_law_412 : decode cL_law 412 = .ok (.iadd, 1) := by decide +kernel
theorem dL_law_413 : decode cL_law 413 = .ok (.iaload, 1) := by decide +kernel
theorem dL_law_414 : decode cL_law 414 = .ok (.invokevirtual 40, 3) := by decide +kernel
theorem dL_law_417 : decode cL_law 417 = .ok (.pop, 1) := by decide +kernel
theorem dL_law_418 : decode cL_law 418 = .ok (.aload_n 2, 1) := by decide +kernel
theorem dL_law_419 : decode cL_law 419 = .ok (.aload_n 0, 1) := by decide +kernel
theorem dL_law_420 : decode cL_law 420 = .ok (.iload_n 3, 1) := by decide +kernel
theorem dL_law_421 : decode cL_law 421 = .ok (.iconst 1, 1) := by decide +kernel
theorem dL_law_422 : decode cL_law 422 = .ok (.iadd, 1) := by decide +kernel
theorem dL_law_423 : decode cL_law 423 = .ok (.iaload, 1) := by decide +kernel
theorem dL_law_424 : decode cL_law 424 = .ok (.invokevirtual 44, 3) := by decide +kernel
theorem dL_law_427 : decode cL_law 427 = .ok (.pop, 1) := by decide +kernel
theorem dL_law_428 : decode cL_law 428 = .ok (.goto 616, 3) := by decide +kernel
theorem dL_law_431 : decode cL_law 431 = .ok (.aload_n 1, 1) := by decide +kernel
theorem dL_law_432 : decode cL_law 432 = .ok (.aload_n 0, 1) := by decide +kernel
theorem dL_law_433 : decode cL_law 433 = .ok (.iload_n 3, 1) := by decide +kernel
theorem dL_law_434 : decode cL_law 434 = .ok (.iconst 1, 1) := by decide +kernel
theorem dL_law_435 : decode cL_law 435 = .ok (.iadd, 1) := by decide +kernel
theorem dL_law_436 : decode cL_law 436 = .ok (.iaload, 1) := by decide +kernel
theorem dL_law_437 : decode cL_law 437 = .ok (.aload_n 0, 1) := by decide +kernel
theorem dL_law_438 : decode cL_law 438 = .ok (.iload_n 3, 1) := by decide +kernel
theorem dL_law_439 : decode cL_law 439 = .ok (.iconst 2, 1) := by decide +kernel
theorem dL_law_440 : decode cL_law 440 = .ok (.iadd, 1) := by decide +kernel
theorem dL_law_441 : decode cL_law 441 = .ok (.iaload, 1) := by decide +kernel
theorem dL_law_442 : decode cL_law 442 = .ok (.invokevirtual 45, 3) := by decide +kernel
theorem dL_law_445 : decode cL_law 445 = .ok (.pop, 1) := by decide +kernel
theorem dL_law_446 : decode cL_law 446 = .ok (.aload_n 2, 1) := by decide +kernel
theorem dL_law_447 : decode cL_law 447 = .ok (.aload_n 0, 1) := by decide +kernel
theorem dL_law_448 : decode cL_law 448 = .ok (.iload_n 3, 1) := by decide +kernel
theorem dL_law_449 : decode cL_law 449 = .ok (.iconst 1, 1) := by decide +kernel
theorem dL_law_450 : decode cL_law 450 = .ok (.iadd, 1) := by decide +kernel
theorem dL_law_451 : decode cL_law 451 = .ok (.iaload, 1) := by decide +kernel
theorem dL_law_452 : decode cL_law 452 = .ok (.aload_n 0, 1) := by decide +kernel
theorem dL_law_453 : decode cL_law 453 = .ok (.iload_n 3, 1) := by decide +kernel
theorem dL_law_454 : decode cL_law 454 = .ok (.iconst 2, 1) := by decide +kernel
theorem dL_law_455 : decode cL_law 455 = .ok (.iadd, 1) := by decide +kernel
theorem dL_law_456 : decode cL_law 456 = .ok (.iaload, 1) := by decide +kernel
theorem dL_law_457 : decode cL_law 457 = .ok (.invokevirtual 49, 3) := by decide +kernel
theorem dL_law_460 : decode cL_law 460 = .ok (.pop, 1) := by decide +kernel
theorem dL_law_461 : decode cL_law 461 = .ok (.goto 583, 3) := by decide +kernel
theorem dL_law_464 : decode cL_law 464 = .ok (.aload_n 1, 1) := by decide +kernel
theorem dL_law_465 : decode cL_law 465 = .ok (.aload_n 0, 1) := by decide +kernel
theorem dL_law_466 : decode cL_law 466 = .ok (.iload_n 3, 1) := by decide +kernel
theorem dL_law_467 : decode cL_law 467 = .ok (.iconst 1, 1) := by decide +kernel
theorem dL_law_468 : decode cL_law 468 = .ok (.iadd, 1) := by decide +kernel
theorem dL_law_469 : decode cL_law 469 = .ok (.iaload, 1) := by decide +kernel
theorem dL_law_470 : decode cL_law 470 = .ok (.invokevirtual 50, 3) := by decide +kernel
theorem dL_law_473 : decode cL_law 473 = .ok (.pop, 1) := by decide +kernel
theorem dL_law_474 : decode cL_law 474 = .ok (.aload_n 2, 1) := by decide +kernel
theorem dL_law_475 : decode cL_law 475 = .ok (.aload_n 0, 1) := by decide +kernel
theorem dL_law_476 : decode cL_law 476 = .ok (.iload_n 3, 1) := by decide +kernel
theorem dL_law_477 : decode cL_law 477 = .ok (.iconst 1, 1) := by decide +kernel
theorem dL_law_478 : decode cL_law 478 = .ok (.iadd, 1) := by decide +kernel
theorem dL_law_479 : decode cL_law 479 = .ok (.iaload, 1) := by decide +kernel
theorem dL_law_480 : decode cL_law 480 = .ok (.invokevirtual 53, 3) := by decide +kernel
theorem dL_law_483 : decode cL_law 483 = .ok (.pop, 1) := by decide +kernel
theorem dL_law_484 : decode cL_law 484 = .ok (.goto 560, 3) := by decide +kernel
theorem dL_law_487 : decode cL_law 487 = .ok (.aload_n 1, 1) := by decide +kernel
theorem dL_law_488 : decode cL_law 488 = .ok (.invokevirtual 54, 3) := by decide +kernel
theorem dL_law_491 : decode cL_law 491 = .ok (.pop, 1) := by decide +kernel
theorem dL_law_492 : decode cL_law 492 = .ok (.aload_n 2, 1) := by decide +kernel
theorem dL_law_493 : decode cL_law 493 = .ok (.invokevirtual 57, 3) := by decide +kernel
theorem dL_law_496 : decode cL_law 496 = .ok (.pop, 1) := by decide +kernel
theorem dL_law_497 : decode cL_law 497 = .ok (.goto 547, 3) := by decide +kernel
theorem dL_law_500 : decode cL_law 500 = .ok (.aload_n 1, 1) := by decide +kernel
theorem dL_law_501 : decode cL_law 501 = .ok (.aload_n 0, 1) := by decide +kernel
theorem dL_law_502 : decode cL_law 502 = .ok (.iload_n 3, 1) := by decide +kernel
theorem dL_law_503 : decode cL_law 503 = .ok (.iconst 1, 1) := by decide +kernel
theorem dL_law_504 : decode cL_law 504 = .ok (.iadd, 1) := by decide +kernel
theorem dL_law_505 : decode cL_law 505 = .ok (.iaload, 1) := by decide +kernel
theorem dL_law_506 : decode cL_law 506 = .ok (.invokevirtual 58, 3) := by decide +kernel
theorem dL_law_509 : decode cL_law 509 = .ok (.pop, 1) := by decide +kernel
theorem dL_law_510 : decode cL_law 510 = .ok (.aload_n 2, 1) := by decide +kernel
theorem dL_law_511 : decode cL_law 511 = .ok (.aload_n 0, 1) := by decide +kernel
theorem dL_law_512 : decode cL_law 512 = .ok (.iload_n 3, 1) := by decide +kernel
theorem dL_law_513 : decode cL_law 513 = .ok (.iconst 1, 1) := by decide +kernel
theorem dL_law_514 : decode cL_law 514 = .ok (.iadd, 1) := by decide +kernel
theorem dL_law_515 : decode cL_law 515 = .ok (.iaload, 1) := by decide +kernel
theorem dL_law_516 : decode cL_law 516 = .ok (.invokevirtual 61, 3) := by decide +kernel
theorem dL_law_519 : decode cL_law 519 = .ok (.pop, 1) := by decide +kernel
theorem dL_law_520 : decode cL_law 520 = .ok (.goto 524, 3) := by decide +kernel
theorem dL_law_523 : decode cL_law 523 = .ok (.aload_n 1, 1) := by decide +kernel
theorem dL_law_524 : decode cL_law 524 = .ok (.aload_n 0, 1) := by decide +kernel
theorem dL_law_525 : decode cL_law 525 = .ok (.iload_n 3, 1) := by decide +kernel
theorem dL_law_526 : decode cL_law 526 = .ok (.iconst 1, 1) := by decide +kernel
theorem dL_law_527 : decode cL_law 527 = .ok (.iadd, 1) := by decide +kernel
theorem dL_law_528 : decode cL_law 528 = .ok (.iaload, 1) := by decide +kernel
theorem dL_law_529 : decode cL_law 529 = .ok (.aload_n 0, 1) := by decide +kernel
theorem dL_law_530 : decode cL_law 530 = .ok (.iload_n 3, 1) := by decide +kernel
theorem dL_law_531 : decode cL_law 531 = .ok (.iconst 2, 1) := by decide +kernel
theorem dL_law_532 : decode cL_law 532 = .ok (.iadd, 1) := by decide +kernel
theorem dL_law_533 : decode cL_law 533 = .ok (.iaload, 1) := by decide +kernel
theorem dL_law_534 : decode cL_law 534 = .ok (.invokevirtual 62, 3) := by decide +kernel
theorem dL_law_537 : decode cL_law 537 = .ok (.pop, 1) := by decide +kernel
theorem dL_law_538 : decode cL_law 538 = .ok (.aload_n 2, 1) := by decide +kernel
theorem dL_law_539 : decode cL_law 539 = .ok (.aload_n 0, 1) := by decide +kernel
theorem dL_law_540 : decode cL_law 540 = .ok (.iload_n 3, 1) := by decide +kernel
theorem dL_law_541 : decode cL_law 541 = .ok (.iconst 1, 1) := by decide +kernel
theorem dL_law_542 : decode cL_law 542 = .ok (.iadd, 1) := by decide +kernel
theorem dL_law_543 : decode cL_law 543 = .ok (.iaload, 1) := by decide +kernel
theorem dL_law_544 : decode cL_law 544 = .ok (.aload_n 0, 1) := by decide +kernel
theorem dL_law_545 : decode cL_law 545 = .ok (.iload_n 3, 1) := by decide +kernel
theorem dL_law_546 : decode cL_law 546 = .ok (.iconst 2, 1) := by decide +kernel
theorem dL_law_547 : decode cL_law 547 = .ok (.iadd, 1) := by decide +kernel
theorem dL_law_548 : decode cL_law 548 = .ok (.iaload, 1) := by decide +kernel
theorem dL_law_549 : decode cL_law 549 = .ok (.invokevirtual 65, 3) := by decide +kernel
theorem dL_law_552 : decode cL_law 552 = .ok (.pop, 1) := by decide +kernel
theorem dL_law_553 : decode cL_law 553 = .ok (.goto 491, 3) := by decide +kernel
theorem dL_law_556 : decode cL_law 556 = .ok (.aload_n 1, 1) := by decide +kernel
theorem dL_law_557 : decode cL_law 557 = .ok (.invokevirtual 66, 3) := by decide +kernel
theorem dL_law_560 : decode cL_law 560 = .ok (.pop, 1) := by decide +kernel
theorem dL_law_561 : decode cL_law 561 = .ok (.aload_n 2, 1) := by decide +kernel
theorem dL_law_562 : decode cL_law 562 = .ok (.invokevirtual 69, 3) := by decide +kernel
theorem dL_law_565 : decode cL_law 565 = .ok (.pop, 1) := by decide +kernel
theorem dL_law_566 : decode cL_law 566 = .ok (.goto 478, 3) := by decide +kernel
theorem dL_law_569 : decode cL_law 569 = .ok (.aload_n 1, 1) := by decide +kernel
theorem dL_law_570 : decode cL_law 570 = .ok (.aload_n 0, 1) := by decide +kernel
theorem dL_law_571 : decode cL_law 571 = .ok (.iload_n 3, 1) := by decide +kernel
theorem dL_law_572 : decode cL_law 572 = .ok (.iconst 1, 1) := by decide +kernel
theorem dL_law_573 : decode cL_law 573 = .ok (.iadd, 1) := by decide +kernel
theorem dL_law_574 : decode cL_law 574 = .ok (.iaload, 1) := by decide +kernel
theorem dL_law_575 : decode cL_law 575 = .ok (.aload_n 0, 1) := by decide +kernel
theorem dL_law_576 : decode cL_law 576 = .ok (.iload_n 3, 1) := by decide +kernel
theorem dL_law_577 : decode cL_law 577 = .ok (.iconst 2, 1) := by decide +kernel
theorem dL_law_578 : decode cL_law 578 = .ok (.iadd, 1) := by decide +kernel
theorem dL_law_579 : decode cL_law 579 = .ok (.iaload, 1) := by decide +kernel
theorem dL_law_580 : decode cL_law 580 = .ok (.invokevirtual 70, 3) := by decide +kernel
theorem dL_law_583 : decode cL_law 583 = .ok (.pop, 1) := by decide +kernel
theorem dL_law_584 : decode cL_law 584 = .ok (.aload_n 2, 1) := by decide +kernel
theorem dL_law_585 : decode cL_law 585 = .ok (.aload_n 0, 1) := by decide +kernel
theorem dL_law_586 : decode cL_law 586 = .ok (.iload_n 3, 1) := by decide +kernel
theorem dL_law_587 : decode cL_law 587 = .ok (.iconst 1, 1) := by decide +kernel
theorem dL_law_588 : decode cL_law 588 = .ok (.iadd, 1) := by decide +kernel
theorem dL_law_589 : decode cL_law 589 = .ok (.iaload, 1) := by decide +kernel
theorem dL_law_590 : decode cL_law 590 = .ok (.aload_n 0, 1) := by decide +kernel
theorem dL_law_591 : decode cL_law 591 = .ok (.iload_n 3, 1) := by decide +kernel
theorem dL_law_592 : decode cL_law 592 = .ok (.iconst 2, 1) := by decide +kernel
theorem dL_law_593 : decode cL_law 593 = .ok (.iadd, 1) := by decide +kernel
theorem dL_law_594 : decode cL_law 594 = .ok (.iaload, 1) := by decide +kernel
theorem dL_law_595 : decode cL_law 595 = .ok (.invokevirtual 73, 3) := by decide +kernel
theorem dL_law_598 : decode cL_law 598 = .ok (.pop, 1) := by decide +kernel
theorem dL_law_599 : decode cL_law 599 = .ok (.goto 445, 3) := by decide +kernel
theorem dL_law_602 : decode cL_law 602 = .ok (.aload_n 1, 1) := by decide +kernel
theorem dL_law_603 : decode cL_law 603 = .ok (.aload_n 0, 1) := by decide +kernel
theorem dL_law_604 : decode cL_law 604 = .ok (.iload_n 3, 1) := by decide +kernel
theorem dL_law_605 : decode cL_law 605 = .ok (.iconst 1, 1) := by decide +kernel
theorem dL_law_606 : decode cL_law 606 = .ok (.iadd, 1) := by decide +kernel
theorem dL_law_607 : decode cL_law 607 = .ok (.iaload, 1) := by decide +kernel
theorem dL_law_608 : decode cL_law 608 = .ok (.aload_n 0, 1) := by decide +kernel
theorem dL_law_609 : decode cL_law 609 = .ok (.iload_n 3, 1) := by decide +kernel
theorem dL_law_610 : decode cL_law 610 = .ok (.iconst 2, 1) := by decide +kernel
theorem dL_law_611 : decode cL_law 611 = .ok (.iadd, 1) := by decide +kernel
theorem dL_law_612 : decode cL_law 612 = .ok (.iaload, 1) := by decide +kernel
theorem dL_law_613 : decode cL_law 613 = .ok (.invokevirtual 74, 3) := by decide +kernel
theorem dL_law_616 : decode cL_law 616 = .ok (.pop, 1) := by decide +kernel
theorem dL_law_617 : decode cL_law 617 = .ok (.aload_n 2, 1) := by decide +kernel
theorem dL_law_618 : decode cL_law 618 = .ok (.aload_n 0, 1) := by decide +kernel
theorem dL_law_619 : decode cL_law 619 = .ok (.iload_n 3, 1) := by decide +kernel
theorem dL_law_620 : decode cL_law 620 = .ok (.iconst 1, 1) := by decide +kernel
theorem dL_law_621 : decode cL_law 621 = .ok (.iadd, 1) := by decide +kernel
theorem dL_law_622 : decode cL_law 622 = .ok (.iaload, 1) := by decide +kernel
theorem dL_law_623 : decode cL_law 623 = .ok (.aload_n 0, 1) := by decide +kernel
theorem dL_law_624 : decode cL_law 624 = .ok (.iload_n 3, 1) := by decide +kernel
theorem dL_law_625 : decode cL_law 625 = .ok (.iconst 2, 1) := by decide +kernel
theorem dL_law_626 : decode cL_law 626 = .ok (.iadd, 1) := by decide +kernel
theorem dL_law_627 : decode cL_law 627 = .ok (.iaload, 1) := by decide +kernel
theorem dL_law_628 : decode cL_law 628 = .ok (.invokevirtual 77, 3) := by decide +kernel
theorem dL_law_631 : decode cL_law 631 = .ok (.pop, 1) := by decide +kernel
theorem dL_law_632 : decode cL_law 632 = .ok (.goto 412, 3) := by decide +kernel
theorem dL_law_635 : decode cL_law 635 = .ok (.aload_n 1, 1) := by decide +kernel
theorem dL_law_636 : decode cL_law 636 = .ok (.aload_n 0, 1) := by decide +kernel
theorem dL_law_637 : decode cL_law 637 = .ok (.iload_n 3, 1) := by decide +kernel
theorem dL_law_638 : decode cL_law 638 = .ok (.iconst 1, 1) := by decide +kernel
theorem dL_law_639 : decode cL_law 639 = .ok (.iadd, 1) := by decide +kernel
theorem dL_law_640 : decode cL_law 640 = .ok (.iaload, 1) := by decide +kernel
theorem dL_law_641 : decode cL_law 641 = .ok (.aload_n 0, 1) := by decide +kernel
theorem dL_law_642 : decode cL_law 642 = .ok (.iload_n 3, 1) := by decide +kernel
theorem dL_law_643 : decode cL_law 643 = .ok (.iconst 2, 1) := by decide +kernel
theorem dL_law_644 : decode cL_law 644 = .ok (.iadd, 1) := by decide +kernel
theorem dL_law_645 : decode cL_law 645 = .ok (.iaload, 1) := by decide +kernel
theorem dL_law_646 : decode cL_law 646 = .ok (.invokevirtual 78, 3) := by decide +kernel
theorem dL_law_649 : decode cL_law 649 = .ok (.pop, 1) := by decide +kernel
theorem dL_law_650 : decode cL_law 650 = .ok (.aload_n 2, 1) := by decide +kernel
theorem dL_law_651 : decode cL_law 651 = .ok (.aload_n 0, 1) := by decide +kernel
theorem dL_law_652 : decode cL_law 652 = .ok (.iload_n 3, 1) := by decide +kernel
theorem dL_law_653 : decode cL_law 653 = .ok (.iconst 1, 1) := by decide +kernel
theorem dL_law_654 : decode cL_law 654 = .ok (.iadd, 1) := by decide +kernel
theorem dL_law_655 : decode cL_law 655 = .ok (.iaload, 1) := by decide +kernel
theorem dL_law_656 : decode cL_law 656 = .ok (.aload_n 0, 1) := by decide +kernel
theorem dL_law_657 : decode cL_law 657 = .ok (.iload_n 3, 1) := by decide +kernel
theorem dL_law_658 : decode cL_law 658 = .ok (.iconst 2, 1) := by decide +kernel
theorem dL_law_659 : decode cL_law 659 = .ok (.iadd, 1) := by decide +kernel
theorem dL_law_660 : decode cL_law 660 = .ok (.iaload, 1) := by decide +kernel
theorem dL_law_661 : decode cL_law 661 = .ok (.invokevirtual 81, 3) := by decide +kernel
theorem dL_law_664 : decode cL_law 664 = .ok (.pop, 1) := by decide +kernel
theorem dL_law_665 : decode cL_law 665 = .ok (.goto 379, 3) := by decide +kernel
theorem dL_law_668 : decode cL_law 668 = .ok (.aload_n 1, 1) := by decide +kernel
theorem dL_law_669 : decode cL_law 669 = .ok (.aload_n 0, 1) := by decide +kernel
theorem dL_law_670 : decode cL_law 670 = .ok (.iload_n 3, 1) := by decide +kernel
theorem dL_law_671 : decode cL_law 671 = .ok (.iconst 1, 1) := by decide +kernel
theorem dL_law_672 : decode cL_law 672 = .ok (.iadd, 1) := by decide +kernel
theorem dL_law_673 : decode cL_law 673 = .ok (.iaload, 1) := by decide +kernel
theorem dL_law_674 : decode cL_law 674 = .ok (.aload_n 0, 1) := by decide +kernel
theorem dL_law_675 : decode cL_law 675 = .ok (.iload_n 3, 1) := by decide +kernel
theorem dL_law_676 : decode cL_law 676 = .ok (.iconst 2, 1) := by decide +kernel
theorem dL_law_677 : decode cL_law 677 = .ok (.iadd, 1) := by decide +kernel
theorem dL_law_678 : decode cL_law 678 = .ok (.iaload, 1) := by decide +kernel
theorem dL_law_679 : decode cL_law 679 = .ok (.aload_n 0, 1) := by decide +kernel
theorem dL_law_680 : decode cL_law 680 = .ok (.iload_n 3, 1) := by decide +kernel
theorem dL_law_681 : decode cL_law 681 = .ok (.iconst 3, 1) := by decide +kernel
theorem dL_law_682 : decode cL_law 682 = .ok (.iadd, 1) := by decide +kernel
theorem dL_law_683 : decode cL_law 683 = .ok (.iaload, 1) := by decide +kernel
theorem dL_law_684 : decode cL_law 684 = .ok (.invokevirtual 82, 3) := by decide +kernel
theorem dL_law_687 : decode cL_law 687 = .ok (.pop, 1) := by decide +kernel
theorem dL_law_688 : decode cL_law 688 = .ok (.aload_n 2, 1) := by decide +kernel
theorem dL_law_689 : decode cL_law 689 = .ok (.aload_n 0, 1) := by decide +kernel
theorem dL_law_690 : decode cL_law 690 = .ok (.iload_n 3, 1) := by decide +kernel
theorem dL_law_691 : decode cL_law 691 = .ok (.iconst 1, 1) := by decide +kernel
theorem dL_law_692 : decode cL_law 692 = .ok (.iadd, 1) := by decide +kernel
theorem dL_law_693 : decode cL_law 693 = .ok (.iaload, 1) := by decide +kernel
theorem dL_law_694 : decode cL_law 694 = .ok (.aload_n 0, 1) := by decide +kernel
theorem dL_law_695 : decode cL_law 695 = .ok (.iload_n 3, 1) := by decide +kernel
theorem dL_law_696 : decode cL_law 696 = .ok (.iconst 2, 1) := by decide +kernel
theorem dL_law_697 : decode cL_law 697 = .ok (.iadd, 1) := by decide +kernel
theorem dL_law_698 : decode cL_law 698 = .ok (.iaload, 1) := by decide +kernel
theorem dL_law_699 : decode cL_law 699 = .ok (.aload_n 0, 1) := by decide +kernel
theorem dL_law_700 : decode cL_law 700 = .ok (.iload_n 3, 1) := by decide +kernel
theorem dL_law_701 : decode cL_law 701 = .ok (.iconst 3, 1) := by decide +kernel
theorem dL_law_702 : decode cL_law 702 = .ok (.iadd, 1) := by decide +kernel
theorem dL_law_703 : decode cL_law 703 = .ok (.iaload, 1) := by decide +kernel
theorem dL_law_704 : decode cL_law 704 = .ok (.invokevirtual 85, 3) := by decide +kernel
theorem dL_law_707 : decode cL_law 707 = .ok (.pop, 1) := by decide +kernel
theorem dL_law_708 : decode cL_law 708 = .ok (.goto 336, 3) := by decide +kernel
theorem dL_law_711 : decode cL_law 711 = .ok (.aload_n 1, 1) := by decide +kernel
theorem dL_law_712 : decode cL_law 712 = .ok (.aload_n 0, 1) := by decide +kernel
theorem dL_law_713 : decode cL_law 713 = .ok (.iload_n 3, 1) := by decide +kernel
theorem dL_law_714 : decode cL_law 714 = .ok (.iconst 1, 1) := by decide +kernel
theorem dL_law_715 : decode cL_law 715 = .ok (.iadd, 1) := by decide +kernel
theorem dL_law_716 : decode cL_law 716 = .ok (.iaload, 1) := by decide +kernel
theorem dL_law_717 : decode cL_law 717 = .ok (.aload_n 0, 1) := by decide +kernel
theorem dL_law_718 : decode cL_law 718 = .ok (.iload_n 3, 1) := by decide +kernel
theorem dL_law_719 : decode cL_law 719 = .ok (.iconst 2, 1) := by decide +kernel
theorem dL_law_720 : decode cL_law 720 = .ok (.iadd, 1) := by decide +kernel
theorem dL_law_721 : decode cL_law 721 = .ok (.iaload, 1) := by decide +kernel
theorem dL_law_722 : decode cL_law 722 = .ok (.invokevirtual 86, 3) := by decide +kernel
theorem dL_law_725 : decode cL_law 725 = .ok (.pop, 1) := by decide +kernel
theorem dL_law_726 : decode cL_law 726 = .ok (.aload_n 2, 1) := by decide +kernel
theorem dL_law_727 : decode cL_law 727 = .ok (.aload_n 0, 1) := by decide +kernel
theorem dL_law_728 : decode cL_law 728 = .ok (.iload_n 3, 1) := by decide +kernel
theorem dL_law_729 : decode cL_law 729 = .ok (.iconst 1, 1) := by decide +kernel
theorem dL_law_730 : decode cL_law 730 = .ok (.iadd, 1) := by decide +kernel
theorem dL_law_731 : decode cL_law 731 = .ok (.iaload, 1) := by decide +kernel
theorem dL_law_732 : decode cL_law 732 = .ok (.aload_n 0, 1) := by decide +kernel
theorem dL_law_733 : decode cL_law 733 = .ok (.iload_n 3, 1) := by decide +kernel
theorem dL_law_734 : decode cL_law 734 = .ok (.iconst 2, 1) := by decide +kernel
theorem dL_law_735 : decode cL_law 735 = .ok (.iadd, 1) := by decide +kernel
theorem dL_law_736 : decode cL_law 736 = .ok (.iaload, 1) := by decide +kernel
theorem dL_law_737 : decode cL_law 737 = .ok (.invokevirtual 89, 3) := by decide +kernel
theorem dL_law_740 : decode cL_law 740 = .ok (.pop, 1) := by decide +kernel
theorem dL_law_741 : decode cL_law 741 = .ok (.goto 303, 3) := by decide +kernel
theorem dL_law_744 : decode cL_law 744 = .ok (.aload_n 1, 1) := by decide +kernel
theorem dL_law_745 : decode cL_law 745 = .ok (.aload_n 0, 1) := by decide +kernel
theorem dL_law_746 : decode cL_law 746 = .ok (.iload_n 3, 1) := by decide +kernel
theorem dL_law_747 : decode cL_law 747 = .ok (.iconst 1, 1) := by decide +kernel
theorem dL_law_748 : decode cL_law 748 = .ok (.iadd, 1) := by decide +kernel
theorem dL_law_749 : decode cL_law 749 = .ok (.iaload, 1) := by decide +kernel
theorem dL_law_750 : decode cL_law 750 = .ok (.invokevirtual 90, 3) := by decide +kernel
theorem dL_law_753 : decode cL_law 753 = .ok (.pop, 1) := by decide +kernel
theorem dL_law_754 : decode cL_law 754 = .ok (.aload_n 2, 1) := by decide +kernel
theorem dL_law_755 : decode cL_law 755 = .ok (.aload_n 0, 1) := by decide +kernel
theorem dL_law_756 : decode cL_law 756 = .ok (.iload_n 3, 1) := by decide +kernel
theorem dL_law_757 : decode cL_law 757 = .ok (.iconst 1, 1) := by decide +kernel
theorem dL_law_758 : decode cL_law 758 = .ok (.iadd, 1) := by decide +kernel
theorem dL_law_759 : decode cL_law 759 = .ok (.iaload, 1) := by decide +kernel
theorem dL_law_760 : decode cL_law 760 = .ok (.invokevirtual 93, 3) := by decide +kernel
theorem dL_law_763 : decode cL_law 763 = .ok (.pop, 1) := by decide +kernel
theorem dL_law_764 : decode cL_law 764 = .ok (.goto 280, 3) := by decide +kernel
theorem dL_law_767 : decode cL_law 767 = .ok (.aload_n 1, 1) := by decide +kernel
theorem dL_law_768 : decode cL_law 768 = .ok (.aload_n 0, 1) := by decide +kernel
theorem dL_law_769 : decode cL_law 769 = .ok (.iload_n 3, 1) := by decide +kernel
theorem dL_law_770 : decode cL_law 770 = .ok (.iconst 1, 1) := by decide +kernel
theorem dL_law_771 : decode cL_law 771 = .ok (.iadd, 1) := by decide +kernel
theorem dL_law_772 : decode cL_law 772 = .ok (.iaload, 1) := by decide +kernel
theorem dL_law_773 : decode cL_law 773 = .ok (.invokevirtual 94, 3) := by decide +kernel
theorem dL_law_776 : decode cL_law 776 = .ok (.pop, 1) := by decide +kernel
theorem dL_law_777 : decode cL_law 777 = .ok (.aload_n 2, 1) := by decide +kernel
theorem dL_law_778 : decode cL_law 778 = .ok (.aload_n 0, 1) := by decide +kernel
theorem dL_law_779 : decode cL_law 779 = .ok (.iload_n 3, 1) := by decide +kernel
theorem dL_law_780 : decode cL_law 780 = .ok (.iconst 1, 1) := by decide +kernel
theorem dL_law_781 : decode cL_law 781 = .ok (.iadd, 1) := by decide +kernel
theorem dL_law_782 : decode cL_law 782 = .ok (.iaload, 1) := by decide +kernel
theorem dL_law_783 : decode cL_law 783 = .ok (.invokevirtual 97, 3) := by decide +kernel
theorem dL_law_786 : decode cL_law 786 = .ok (.pop, 1) := by decide +kernel
theorem dL_law_787 : decode cL_law 787 = .ok (.goto 257, 3) := by decide +kernel
theorem dL_law_790 : decode cL_law 790 = .ok (.aload_n 1, 1) := by decide +kernel
theorem dL_law_791 : decode cL_law 791 = .ok (.aload_n 0, 1) := by decide +kernel
theorem dL_law_792 : decode cL_law 792 = .ok (.iload_n 3, 1) := by decide +kernel
theorem dL_law_793 : decode cL_law 793 = .ok (.iconst 1, 1) := by decide +kernel
theorem dL_law_794 : decode cL_law 794 = .ok (.iadd, 1) := by decide +kernel
theorem dL_law_795 : decode cL_law 795 = .ok (.iaload, 1) := by decide +kernel
theorem dL_law_796 : decode cL_law 796 = .ok (.aload_n 0, 1) := by decide +kernel
theorem dL_law_797 : decode cL_law 797 = .ok (.iload_n 3, 1) := by decide +kernel
theorem dL_law_798 : decode cL_law 798 = .ok (.iconst 2, 1) := by decide +kernel
theorem dL_law_799 : decode cL_law 799 = .ok (.iadd, 1) := by decide +kernel
theorem dL_law_800 : decode cL_law 800 = .ok (.iaload, 1) := by decide +kernel
theorem dL_law_801 : decode cL_law 801 = .ok (.aload_n 0, 1) := by decide +kernel
theorem dL_law_802 : decode cL_law 802 = .ok (.iload_n 3, 1) := by decide +kernel
theorem dL_law_803 : decode cL_law 803 = .ok (.iconst 3, 1) := by decide +kernel
theorem dL_law_804 : decode cL_law 804 = .ok (.iadd, 1) := by decide +kernel
theorem dL_law_805 : decode cL_law 805 = .ok (.iaload, 1) := by decide +kernel
theorem dL_law_806 : decode cL_law 806 = .ok (.invokevirtual 98, 3) := by decide +kernel
theorem dL_law_809 : decode cL_law 809 = .ok (.pop, 1) := by decide +kernel
theorem dL_law_810 : decode cL_law 810 = .ok (.aload_n 2, 1) := by decide +kernel
theorem dL_law_811 : decode cL_law 811 = .ok (.aload_n 0, 1) := by decide +kernel
theorem dL_law_812 : decode cL_law 812 = .ok (.iload_n 3, 1) := by decide +kernel
theorem dL_law_813 : decode cL_law 813 = .ok (.iconst 1, 1) := by decide +kernel
theorem dL_law_814 : decode cL_law 814 = .ok (.iadd, 1) := by decide +kernel
theorem dL_law_815 : decode cL_law 815 = .ok (.iaload, 1) := by decide +kernel
theorem dL_law_816 : decode cL_law 816 = .ok (.aload_n 0, 1) := by decide +kernel
theorem dL_law_817 : decode cL_law 817 = .ok (.iload_n 3, 1) := by decide +kernel
theorem dL_law_818 : decode cL_law 818 = .ok (.iconst 2, 1) := by decide +kernel
theorem dL_law_819 : decode cL_law 819 = .ok (.iadd, 1) := by decide +kernel
theorem dL_law_820 : decode cL_law 820 = .ok (.iaload, 1) := by decide +kernel
theorem dL_law_821 : decode cL_law 821 = .ok (.aload_n 0, 1) := by decide +kernel
theorem dL_law_822 : decode cL_law 822 = .ok (.iload_n 3, 1) := by decide +kernel
theorem dL_law_823 : decode cL_law 823 = .ok (.iconst 3, 1) := by decide +kernel
theorem dL_law_824 : decode cL_law 824 = .ok (.iadd, 1) := by decide +kernel
theorem dL_law_825 : decode cL_law 825 = .ok (.iaload, 1) := by decide +kernel
theorem dL_law_826 : decode cL_law 826 = .ok (.invokevirtual 101, 3) := by decide +kernel
theorem dL_law_829 : decode cL_law 829 = .ok (.pop, 1) := by decide +kernel
theorem dL_law_830 : decode cL_law 830 = .ok (.goto 214, 3) := by decide +kernel
theorem dL_law_833 : decode cL_law 833 = .ok (.aload_n 1, 1) := by decide +kernel
theorem dL_law_834 : decode cL_law 834 = .ok (.aload_n 0, 1) := by decide +kernel
theorem dL_law_835 : decode cL_law 835 = .ok (.iload_n 3, 1) := by decide +kernel
theorem dL_law_836 : decode cL_law 836 = .ok (.iconst 1, 1) := by decide +kernel
theorem dL_law_837 : decode cL_law 837 = .ok (.iadd, 1) := by decide +kernel
theorem dL_law_838 : decode cL_law 838 = .ok (.iaload, 1) := by decide +kernel
theorem dL_law_839 : decode cL_law 839 = .ok (.aload_n 0, 1) := by decide +kernel
theorem dL_law_840 : decode cL_law 840 = .ok (.iload_n 3, 1) := by decide +kernel
theorem dL_law_841 : decode cL_law 841 = .ok (.iconst 2, 1) := by decide +kernel
theorem dL_law_842 : decode cL_law 842 = .ok (.iadd, 1) := by decide +kernel
theorem dL_law_843 : decode cL_law 843 = .ok (.iaload, 1) := by decide +kernel
theorem dL_law_844 : decode cL_law 844 = .ok (.invokevirtual 102, 3) := by decide +kernel
theorem dL_law_847 : decode cL_law 847 = .ok (.pop, 1) := by decide +kernel
theorem dL_law_848 : decode cL_law 848 = .ok (.aload_n 2, 1) := by decide +kernel
theorem dL_law_849 : decode cL_law 849 = .ok (.aload_n 0, 1) := by decide +kernel
theorem dL_law_850 : decode cL_law 850 = .ok (.iload_n 3, 1) := by decide +kernel
theorem dL_law_851 : decode cL_law 851 = .ok (.iconst 1, 1) := by decide +kernel
theorem dL_law_852 : decode cL_law 852 = .ok (.iadd, 1) := by decide +kernel
theorem dL_law_853 : decode cL_law 853 = .ok (.iaload, 1) := by decide +kernel
theorem dL_law_854 : decode cL_law 854 = .ok (.aload_n 0, 1) := by decide +kernel
theorem dL_law_855 : decode cL_law 855 = .ok (.iload_n 3, 1) := by decide +kernel
theorem dL_law_856 : decode cL_law 856 = .ok (.iconst 2, 1) := by decide +kernel
theorem dL_law_857 : decode cL_law 857 = .ok (.iadd, 1) := by decide +kernel
theorem dL_law_858 : decode cL_law 858 = .ok (.iaload, 1) := by decide +kernel
theorem dL_law_859 : decode cL_law 859 = .ok (.invokevirtual 105, 3) := by decide +kernel
theorem dL_law_862 : decode cL_law 862 = .ok (.pop, 1) := by decide +kernel
theorem dL_law_863 : decode cL_law 863 = .ok (.goto 181, 3) := by decide +kernel
theorem dL_law_866 : decode cL_law 866 = .ok (.aload_n 1, 1) := by decide +kernel
theorem dL_law_867 : decode cL_law 867 = .ok (.aload_n 0, 1) := by decide +kernel
theorem dL_law_868 : decode cL_law 868 = .ok (.iload_n 3, 1) := by decide +kernel
theorem dL_law_869 : decode cL_law 869 = .ok (.iconst 1, 1) := by decide +kernel
theorem dL_law_870 : decode cL_law 870 = .ok (.iadd, 1) := by decide +kernel
theorem dL_law_871 : decode cL_law 871 = .ok (.iaload, 1) := by decide +kernel
theorem dL_law_872 : decode cL_law 872 = .ok (.invokevirtual 106, 3) := by decide +kernel
theorem dL_law_875 : decode cL_law 875 = .ok (.pop, 1) := by decide +kernel
theorem dL_law_876 : decode cL_law 876 = .ok (.aload_n 2, 1) := by decide +kernel
theorem dL_law_877 : decode cL_law 877 = .ok (.aload_n 0, 1) := by decide +kernel
theorem dL_law_878 : decode cL_law 878 = .ok (.iload_n 3, 1) := by decide +kernel
theorem dL_law_879 : decode cL_law 879 = .ok (.iconst 1, 1) := by decide +kernel
theorem dL_law_880 : decode cL_law 880 = .ok (.iadd, 1) := by decide +kernel
theorem dL_law_881 : decode cL_law 881 = .ok (.iaload, 1) := by decide +kernel
theorem dL_law_882 : decode cL_law 882 = .ok (.invokevirtual 109, 3) := by decide +kernel
theorem dL_law_885 : decode cL_law 885 = .ok (.pop, 1) := by decide +kernel
theorem dL_law_886 : decode cL_law 886 = .ok (.goto 158, 3) := by decide +kernel
theorem dL_law_889 : decode cL_law 889 = .ok (.aload_n 1, 1) := by decide +kernel
theorem dL_law_890 : decode cL_law 890 = .ok (.aload_n 0, 1) := by decide +kernel
theorem dL_law_891 : decode cL_law 891 = .ok (.iload_n 3, 1) := by decide +kernel
theorem dL_law_892 : decode cL_law 892 = .ok (.iconst 1, 1) := by decide +kernel
theorem dL_law_893 : decode cL_law 893 = .ok (.iadd, 1) := by decide +kernel
theorem dL_law_894 : decode cL_law 894 = .ok (.iaload, 1) := by decide +kernel
theorem dL_law_895 : decode cL_law 895 = .ok (.aload_n 0, 1) := by decide +kernel
theorem dL_law_896 : decode cL_law 896 = .ok (.iload_n 3, 1) := by decide +kernel
theorem dL_law_897 : decode cL_law 897 = .ok (.iconst 2, 1) := by decide +kernel
theorem dL_law_898 : decode cL_law 898 = .ok (.iadd, 1) := by decide +kernel
theorem dL_law_899 : decode cL_law 899 = .ok (.iaload, 1) := by decide +kernel
theorem dL_law_900 : decode cL_law 900 = .ok (.invokevirtual 110, 3) := by decide +kernel
theorem dL_law_903 : decode cL_law 903 = .ok (.pop, 1) := by decide +kernel
theorem dL_law_904 : decode cL_law 904 = .ok (.aload_n 2, 1) := by decide +kernel
theorem dL_law_905 : decode cL_law 905 = .ok (.aload_n 0, 1) := by decide +kernel
theorem dL_law_906 : decode cL_law 906 = .ok (.iload_n 3, 1) := by decide +kernel
theorem dL_law_907 : decode cL_law 907 = .ok (.iconst 1, 1) := by decide +kernel
theorem dL_law_908 : decode cL_law 908 = .ok (.iadd, 1) := by decide +kernel
theorem dL_law_909 : decode cL_law 909 = .ok (.iaload, 1) := by decide +kernel
theorem dL_law_910 : decode cL_law 910 = .ok (.aload_n 0, 1) := by decide +kernel
theorem dL_law_911 : decode cL_law 911 = .ok (.iload_n 3, 1) := by decide +kernel
theorem dL_law_912 : decode cL_law 912 = .ok (.iconst 2, 1) := by decide +kernel
theorem dL_law_913 : decode cL_law 913 = .ok (.iadd, 1) := by decide +kernel
theorem dL_law_914 : decode cL_law 914 = .ok (.iaload, 1) := by decide +kernel
theorem dL_law_915 : decode cL_law 915 = .ok (.invokevirtual 113, 3) := by decide +kernel
theorem dL_law_918 : decode cL_law 918 = .ok (.pop, 1) := by decide +kernel
theorem dL_law_919 : decode cL_law 919 = .ok (.goto 125, 3) := by decide +kernel
theorem dL_law_922 : decode cL_law 922 = .ok (.aload_n 1, 1) := by decide +kernel
theorem dL_law_923 : decode cL_law 923 = .ok (.aload_n 0, 1) := by decide +kernel
theorem dL_law_924 : decode cL_law 924 = .ok (.iload_n 3, 1) := by decide +kernel
theorem dL_law_925 : decode cL_law 925 = .ok (.iconst 1, 1) := by decide +kernel
theorem dL_law_926 : decode cL_law 926 = .ok (.iadd, 1) := by decide +kernel
theorem dL_law_927 : decode cL_law 927 = .ok (.iaload, 1) := by decide +kernel
theorem dL_law_928 : decode cL_law 928 = .ok (.invokevirtual 114, 3) := by decide +kernel
theorem dL_law_931 : decode cL_law 931 = .ok (.pop, 1) := by decide +kernel
theorem dL_law_932 : decode cL_law 932 = .ok (.aload_n 2, 1) := by decide +kernel
theorem dL_law_933 : decode cL_law 933 = .ok (.aload_n 0, 1) := by decide +kernel
theorem dL_law_934 : decode cL_law 934 = .ok (.iload_n 3, 1) := by decide +kernel
theorem dL_law_935 : decode cL_law 935 = .ok (.iconst 1, 1) := by decide +kernel
theorem dL_law_936 : decode cL_law 936 = .ok (.iadd, 1) := by decide +kernel
theorem dL_law_937 : decode cL_law 937 = .ok (.iaload, 1) := by decide +kernel
theorem dL_law_938 : decode cL_law 938 = .ok (.invokevirtual 117, 3) := by decide +kernel
theorem dL_law_941 : decode cL_law 941 = .ok (.pop, 1) := by decide +kernel
theorem dL_law_942 : decode cL_law 942 = .ok (.goto 102, 3) := by decide +kernel
theorem dL_law_945 : decode cL_law 945 = .ok (.aload_n 1, 1) := by decide +kernel
theorem dL_law_946 : decode cL_law 946 = .ok (.aload_n 0, 1) := by decide +kernel
theorem dL_law_947 : decode cL_law 947 = .ok (.iload_n 3, 1) := by decide +kernel
theorem dL_law_948 : decode cL_law 948 = .ok (.iconst 1, 1) := by decide +kernel
theorem dL_law_949 : decode cL_law 949 = .ok (.iadd, 1) := by decide +kernel
theorem dL_law_950 : decode cL_law 950 = .ok (.iaload, 1) := by decide +kernel
theorem dL_law_951 : decode cL_law 951 = .ok (.aload_n 0, 1) := by decide +kernel
theorem dL_law_952 : decode cL_law 952 = .ok (.iload_n 3, 1) := by decide +kernel
theorem dL_law_953 : decode cL_law 953 = .ok (.iconst 2, 1) := by decide +kernel
theorem dL_law_954 : decode cL_law 954 = .ok (.iadd, 1) := by decide +kernel
theorem dL_law_955 : decode cL_law 955 = .ok (.iaload, 1) := by decide +kernel
theorem dL_law_956 : decode cL_law 956 = .ok (.aload_n 0, 1) := by decide +kernel
theorem dL_law_957 : decode cL_law 957 = .ok (.iload_n 3, 1) := by decide +kernel
theorem dL_law_958 : decode cL_law 958 = .ok (.iconst 3, 1) := by decide +kernel
theorem dL_law_959 : decode cL_law 959 = .ok (.iadd, 1) := by decide +kernel
theorem dL_law_960 : decode cL_law 960 = .ok (.iaload, 1) := by decide +kernel
theorem dL_law_961 : decode cL_law 961 = .ok (.invokevirtual 118, 3) := by decide +kernel
theorem dL_law_964 : decode cL_law 964 = .ok (.pop, 1) := by decide +kernel
theorem dL_law_965 : decode cL_law 965 = .ok (.aload_n 2, 1) := by decide +kernel
theorem dL_law_966 : decode cL_law 966 = .ok (.aload_n 0, 1) := by decide +kernel
theorem dL_law_967 : decode cL_law 967 = .ok (.iload_n 3, 1) := by decide +kernel
theorem dL_law_968 : decode cL_law 968 = .ok (.iconst 1, 1) := by decide +kernel
theorem dL_law_969 : decode cL_law 969 = .ok (.iadd, 1) := by decide +kernel
theorem dL_law_970 : decode cL_law 970 = .ok (.iaload, 1) := by decide +kernel
theorem dL_law_971 : decode cL_law 971 = .ok (.aload_n 0, 1) := by decide +kernel
theorem dL_law_972 : decode cL_law 972 = .ok (.iload_n 3, 1) := by decide +kernel
theorem dL_law_973 : decode cL_law 973 = .ok (.iconst 2, 1) := by decide +kernel
theorem dL_law_974 : decode cL_law 974 = .ok (.iadd, 1) := by decide +kernel
theorem dL_law_975 : decode cL_law 975 = .ok (.iaload, 1) := by decide +kernel
theorem dL_law_976 : decode cL_law 976 = .ok (.aload_n 0, 1) := by decide +kernel
theorem dL_law_977 : decode cL_law 977 = .ok (.iload_n 3, 1) := by decide +kernel
theorem dL_law_978 : decode cL_law 978 = .ok (.iconst 3, 1) := by decide +kernel
theorem dL_law_979 : decode cL_law 979 = .ok (.iadd, 1) := by decide +kernel
theorem dL_law_980 : decode cL_law 980 = .ok (.iaload, 1) := by decide +kernel
theorem dL_law_981 : decode cL_law 981 = .ok (.invokevirtual 121, 3) := by decide +kernel
theorem dL_law_984 : decode cL_law 984 = .ok (.pop, 1) := by decide +kernel
theorem dL_law_985 : decode cL_law 985 = .ok (.goto 59, 3) := by decide +kernel
theorem dL_law_988 : decode cL_law 988 = .ok (.aload_n 1, 1) := by decide +kernel
theorem dL_law_989 : decode cL_law 989 = .ok (.aload_n 0, 1) := by decide +kernel
theorem dL_law_990 : decode cL_law 990 = .ok (.iload_n 3, 1) := by decide +kernel
theorem dL_law_991 : decode cL_law 991 = .ok (.iconst 1, 1) := by decide +kernel
theorem dL_law_992 : decode cL_law 992 = .ok (.iadd, 1) := by decide +kernel
theorem dL_law_993 : decode cL_law 993 = .ok (.iaload, 1) := by decide +kernel
theorem dL_law_994 : decode cL_law 994 = .ok (.aload_n 0, 1) := by decide +kernel
theorem dL_law_995 : decode cL_law 995 = .ok (.iload_n 3, 1) := by decide +kernel
theorem dL_law_996 : decode cL_law 996 = .ok (.iconst 2, 1) := by decide +kernel
theorem dL_law_997 : decode cL_law 997 = .ok (.iadd, 1) := by decide +kernel
theorem dL_law_998 : decode cL_law 998 = .ok (.iaload, 1) := by decide +kernel
theorem dL_law_999 : decode cL_law 999 = .ok (.aload_n 0, 1) := by decide +kernel
theorem dL_law_1000 : decode cL_law 1000 = .ok (.iload_n 3, 1) := by decide +kernel
theorem dL_law_1001 : decode cL_law 1001 = .ok (.iconst 3, 1) := by decide +kernel
theorem dL_law_1002 : decode cL_law 1002 = .ok (.iadd, 1) := by decide +kernel
theorem dL_law_1003 : decode cL_law 1003 = .ok (.iaload, 1) := by decide +kernel
theorem dL_law_1004 : decode cL_law 1004 = .ok (.invokevirtual 122, 3) := by decide +kernel
theorem dL_law_1007 : decode cL_law 1007 = .ok (.pop, 1) := by decide +kernel
theorem dL_law_1008 : decode cL_law 1008 = .ok (.aload_n 2, 1) := by decide +kernel
theorem dL_law_1009 : decode cL_law 1009 = .ok (.aload_n 0, 1) := by decide +kernel
theorem dL_law_1010 : decode cL_law 1010 = .ok (.iload_n 3, 1) := by decide +kernel
theorem dL_law_1011 : decode cL_law 1011 = .ok (.iconst 1, 1) := by decide +kernel
theorem dL_law_1012 : decode cL_law 1012 = .ok (.iadd, 1) := by decide +kernel
theorem dL_law_1013 : decode cL_law 1013 = .ok (.iaload, 1) := by decide +kernel
theorem dL_law_1014 : decode cL_law 1014 = .ok (.aload_n 0, 1) := by decide +kernel
theorem dL_law_1015 : decode cL_law 1015 = .ok (.iload_n 3, 1) := by decide +kernel
theorem dL_law_1016 : decode cL_law 1016 = .ok (.iconst 2, 1) := by decide +kernel
theorem dL_law_1017 : decode cL_law 1017 = .ok (.iadd, 1) := by decide +kernel
theorem dL_law_1018 : decode cL_law 1018 = .ok (.iaload, 1) := by decide +kernel
theorem dL_law_1019 : decode cL_law 1019 = .ok (.aload_n 0, 1) := by decide +kernel
theorem dL_law_1020 : decode cL_law 1020 = .ok (.iload_n 3, 1) := by decide +kernel
theorem dL_law_1021 : decode cL_law 1021 = .ok (.iconst 3, 1) := by decide +kernel
theorem dL_law_1022 : decode cL_law 1022 = .ok (.iadd, 1) := by decide +kernel
theorem dL_law_1023 : decode cL_law 1023 = .ok (.iaload, 1) := by decide +kernel
theorem dL_law_1024 : decode cL_law 1024 = .ok (.invokevirtual 125, 3) := by decide +kernel
theorem dL_law_1027 : decode cL_law 1027 = .ok (.pop, 1) := by decide +kernel
theorem dL_law_1028 : decode cL_law 1028 = .ok (.goto 16, 3) := by decide +kernel
theorem dL_law_1031 : decode cL_law 1031 = .ok (.aload_n 1, 1) := by decide +kernel
theorem dL_law_1032 : decode cL_law 1032 = .ok (.invokevirtual 126, 3) := by decide +kernel
theorem dL_law_1035 : decode cL_law 1035 = .ok (.aload_n 2, 1) := by decide +kernel
theorem dL_law_1036 : decode cL_law 1036 = .ok (.invokevirtual 129, 3) := by decide +kernel
theorem dL_law_1039 : decode cL_law 1039 = .ok (.if_icmp .eq 5, 3) := by decide +kernel
theorem dL_law_1044 : decode cL_law 1044 = .ok (.iinc 3 5, 3) := by decide +kernel
theorem dL_law_1047 : decode cL_law 1047 = .ok (.goto (-1029), 3) := by decide +kernel
theorem dL_law_1050 : decode cL_law 1050 = .ok (.iconst 1, 1) := by decide +kernel
theorem dL_law_1051 : decode cL_law 1051 = .ok (.ireturn, 1) := by decide +kernel

/-! part b1.law0 -/
/-! THE CLAIM OUT OF ONE WALK OF THE LAW'S BODY. Your part is whole_start (and what it stands on); all else here is the same for every law, but numbers. -/
def R_law : String := "CrateHelpersLaw"
def lw_P (b : Addr) (xs : List Int32) (args : Array Value) (s : State) : Prop := args = #[.ref b] ∧ s.IntsAt b xs ∧ xs.length ≤ 2560 ∧ (Jvm.Cond.and given_1 narrow_1).before args s = true
def lw_Q (_ : Array Value) (s : State) (o : Outcome) (t : State) : Prop := o = .returned (some (.int 1)) ∧ Framed s o t [] 600000 7302250
def lw_Z (below : List Frame) (a : Array Value) (s : State) : State → Prop := fun t => ∃ o, t.status = .running ∧ Ended t below o ∧ lw_Q a s o t
/-- the law's own end, with 1 on the stack, nothing written that was there before, its room as the claim has it -/
theorem lw_ret {p : Program} {l : Launch} {e : Env} {s : State} {m : MethodId} {below : List Frame} {meth : Method} {c : Code} {b : Nat} (hx : p.tables.exec = Jvm.exec) (hb : c.code = code) (hr : meth.sig.returnType = ret) (hlocks : meth.locks = false) {pc : Nat} {H : Heap} {ls : Array Slot} (hdg : decode code pc = .ok (.ireturn, 1)) : W p l e room_1 s m #[Value.ref b] below meth c H [] 600000 7302250 (lw_Z below #[Value.ref b] s) (F0 m pc ls [.int 1]) := by
  intro T hT X
  obtain ⟨fs, hret, hrun, hended, hW, hframe⟩ := X.leave (v := some (.int 1)) (hlocks := hlocks) (fun h => by rw [hr] at h; cases h)
  have hmeth' : T.vm.method? m = some meth := X.method'
  refine ⟨T.setFrames fs, ?_, .returned (some (.int 1)), hrun, hended, rfl, ⟨_, rfl⟩, hW, hframe⟩
  jvm_step X.here [X.here.top, hx, hb, hdg, hmeth', hr, ret, narrow_b1]
  (try refine ⟨rfl, ?_⟩); (try refine ⟨rfl, ?_⟩)
  first | (intro acts; rw [hret _ acts rfl rfl rfl]) | rw [hret _ _ rfl rfl rfl]
  exact Steps.refl _
/-- what holds at the law's entry: the machine, the code, the tables' words (any of lw_tbl by 'hts w (by decide +kernel)'), the script of L ints xs at the cell b, what the Statement gives of the start (any of its parts by flat_of_before) -/
def lw_At (p : Program) (s : State) (m : MethodId) (meth : Method) (c : Code) (b L : Nat) (xs : Nat → Int32) : Prop :=
  p.tables.exec = Jvm.exec ∧ c.code = code ∧ meth.sig.returnType = ret ∧ c.maxLocals = 4 ∧ s.vm.findClass R_law = some m.cls ∧ (∀ w ∈ lw_tbl, w.before #[Value.ref b] s = true) ∧ va_X b L xs s s.heap ∧ b < s.heap.size ∧ meth.locks = false ∧ (Jvm.Cond.and given_1 narrow_1).before #[Value.ref b] s = true
section LWC
variable {p : Program} {l : Launch} {e : Env} {R : Room} {s : State} {m : MethodId} {args : Array Value} {below : List Frame} {meth : Method} {c : Code} {H : Heap} {locs : List Loc} {cells slots : Nat} {Q : State → Prop}
variable {pc : Nat} {ls : Array Slot} {rest : List Value} {D : va_G} {K : Nat → ClassId} {ad : Nat → Nat} {M : Mem}
variable {y : MethodName} {bytes cc : ByteArray} {maxL nL n index fr lo : Nat} {ret : Option FieldType} {ws : List Cond} {Ts : List Cond} {own C : String} {As : List Value} {j : Nat}
/-- the law calls -/
theorem vcL {post : Int32 → Mem → Prop} (S : CallFix p m c cc nL s args Ts own) (hM : Ci l D K ad y ws fr lo (.ref (ad j) :: As) M post) (cw : CallW R s args own C index y bytes maxL ret ws ({ frames := fr, cells := 0, slots := 0, locals := lo }) 0 0 n) (hK : va_K D vwCl (tyA K) s) (hP : va_P D vwCl (VM K ad M) H) (hS : va_S (fun q : Nat => s.heap.size ≤ q) s.heap H locs) (hge : ∀ j, j < NS → s.heap.size ≤ ad j) {ci : Nat} {cq : vw_C} (hj : j < NS) (hd : kd j = ci) (hci : ci < 8) (hc : vwCl[ci]? = some cq) (hC : cq.1 = C)
    (hn : As.length = n) (hl : ls.size = nL) (hroom : (rest.map fun v => v.category).sum ≤ 8) (hcl : cells ≤ R.cells) (hsl : slots ≤ R.slots) (hdg : decode cc pc = .ok (.invokevirtual index, 3))
    (kk : ∀ (r : Int32) (u : Mem) (H1 : Heap) (locs1 : List Loc), post r u → va_P D vwCl (VM K ad u) H1 → va_S (fun q : Nat => s.heap.size ≤ q) s.heap H1 locs1 → W p l e R s m args below meth c H1 locs1 cells slots Q (F0 m (pc + 3) ls (.int r :: rest))) {st : List Value} (hst : st = As.reverse ++ .ref (ad j) :: rest) : W p l e R s m args below meth c H locs cells slots Q (F0 m pc ls st) := by
  subst hst
  subst hC
  have hF : ∀ q, vF ad H.size q → s.heap.size ≤ q := fun q h => by
    rcases h with ⟨i, hi, rfl⟩ | h
    · exact hge i hi
    · exact Nat.le_trans hS.1 h
  refine va_calli (va_runV (As := As) (rest := rest) S (hM H.size) cw ⟨vP_blind, va_recv hK hP (ci := ci) (q0 := j) hc (VWo hj hd hci), fun U hU hW => ⟨rfl, by rw [hU], by rw [hU]; exact hP, va_K.moved hW.alike hK⟩⟩ rfl hn hl rfl (lv_room hroom) hdg ⟨hcl, hsl⟩) hS (fun q _ h => hF q h) hF (fun r u t H1 locs1 ht hvm hw hB hz1 hk1 hS1 => ?_)
  obtain ⟨hP1, hK1⟩ := hB
  rw [ht] at hP1
  exact kk r u H1 locs1 hw hP1 hS1
end LWC
theorem lw_in {n N : Nat} (hN : N ≤ 2560) (hn : 5 * n + 5 ≤ N) (k : Nat) (hk : k < 5) : vp_in (nI (5 * n) + nI k) N := by
  have e : nI (5 * n) + nI k = nI (5 * n + k) := nI_add _ _
  rw [e]
  unfold vp_in
  rintro (h | h)
  · exact nI_pos (by omega) h
  · rw [t_cl (by omega)] at h; omega
theorem lw_in0 {n N : Nat} (hN : N ≤ 2560) (hn : 5 * n + 5 ≤ N) : vp_in (nI (5 * n)) N := by
  unfold vp_in
  rintro (h | h)
  · exact nI_pos (by omega) h
  · rw [t_cl (by omega)] at h; omega
theorem lw_more {n N : Nat} (hN : N ≤ 2560) (hn : n ≤ 512) (h : ¬ Int32.ofNat N - 5 < nI (5 * n)) : 5 * n + 5 ≤ N := by
  refine Nat.not_lt.mp fun q => h ?_
  rw [Int32.lt_iff_toInt_lt, Int32.toInt_sub, show (5 : Int32).toInt = 5 by decide, show Int32.ofNat N = nI N from rfl, nI_toInt (by omega), nI_toInt (by omega), Int.bmod_eq_of_le (by omega) (by omega)]
  omega

/-! part b2.cases1 -/
set_option maxHeartbeats 4000000 in
set_option maxRecDepth 100000 in
/-- the law: problem -/
theorem law_c0 {p : Program} {l : Launch} {e : Env} {s : State} {m : MethodId} {below : List Frame} {meth : Method} {c : Code} {dC : Nat → ClassId} {dI : Nat → Nat → Nat} {b N : Nat} {xs : Nat → Int32} {K : Nat → ClassId} {ad : Nat → Nat} (C0 : lw_At p s m meth c b N xs) (hN : N ≤ 2560) (hK : va_K (dC, dI) vwCl (tyA K) s) (hap : apart ad (fun _ => True)) (hge : ∀ j, j < NS → s.heap.size ≤ ad j) {n : Nat} (hn : 5 * n + 5 ≤ N) (I : Nat → Nat → Int32) (G : Nat → Nat → Nat) (A : Nat → Nat → Int32) (L : Nat → Nat → Int64) (h : Rel n I G A L I A) (H : Heap) (locs : List Loc) (hP : va_P (dC, dI) vwCl (VW K ad I G A L) H) (hS : va_S (fun q : Nat => s.heap.size ≤ q) s.heap H locs) (ls : Array Slot) (hl : lv_has ls 4 [(3, .int (nI (5 * n))), (2, .ref (ad 318)), (1, .ref (ad 0)), (0, .ref b)]) (kk : ∀ (I : Nat → Nat → Int32) (G : Nat → Nat → Nat) (A : Nat → Nat → Int32) (L : Nat → Nat → Int64) (H : Heap) (locs : List Loc), Rel (n + 1) I G A L I A → va_P (dC, dI) vwCl (VW K ad I G A L) H → va_S (fun q : Nat => s.heap.size ≤ q) s.heap H locs → W p l e room_1 s m #[Value.ref b] below meth c H locs 378 153906 (lw_Z below #[Value.ref b] s) (F0 m 1044 ls [])) : W p l e room_1 s m #[Value.ref b] below meth c H locs 378 153906 (lw_Z below #[Value.ref b] s) (F0 m 160 ls []) := by
  obtain ⟨hx, hb, hr, hml, hown, hts0, hX, hbl, hlocks, hgv⟩ := id C0
  have hts : ∀ w ∈ wsL_law, w.before #[Value.ref b] s = true := fun w h => hts0 w (wsL_law_in w h)
  have hown : s.vm.findClass RL = some m.cls := hown
  have hA : ∀ q : Nat, s.heap.size ≤ q → (fun q : Nat => s.heap.size ≤ q) q := fun _ h => h
  have hbA : ¬ (fun q : Nat => s.heap.size ≤ q) b := Nat.not_le.mpr hbl
  obtain ⟨r, I1, J2, e1, e2, hr1⟩ := g_problem  h 
  refine lv_aload_n hx hb dL_law_160 rfl (lv_at hl 2 rfl) ?_
  refine vcL (j := 0) (As := []) (rest := []) ⟨hx, hb, hml, hown, hts⟩ (e_X6_problem l (dC, dI) K ad hap  _ _ _ _  _ _ e1) (cwV 0 hts gL_law_X6_problem rfl rfl rfl (by decide +kernel) ⟨Nat.le_of_ble_eq_true rfl, Nat.le_of_ble_eq_true rfl⟩) hK hP hS hge (by decide) (show kd 0 = 6 by decide) (by decide) rfl rfl rfl hl.1 (Nat.le_of_ble_eq_true rfl) (Nat.le_of_ble_eq_true rfl) (Nat.le_of_ble_eq_true rfl) dL_law_161 (fun q6 u H locs hw hP hS => ?_) rfl
  obtain ⟨rfl, rfl⟩ := hw
  have hP : va_P (dC, dI) vwCl (VW K ad I1 G A L) H := hP
  refine lv_pop hx hb dL_law_164 rfl ?_
  refine lv_aload_n hx hb dL_law_165 rfl (lv_at hl 1 rfl) ?_
  refine vcL (j := 318) (As := []) (rest := []) ⟨hx, hb, hml, hown, hts⟩ (e_X7_problem l (dC, dI) K ad hap  _ _ _ _  _ _ e2) (cwV 0 hts gL_law_X7_problem rfl rfl rfl (by decide +kernel) ⟨Nat.le_of_ble_eq_true rfl, Nat.le_of_ble_eq_true rfl⟩) hK hP hS hge (by decide) (show kd 318 = 7 by decide) (by decide) rfl rfl rfl hl.1 (Nat.le_of_ble_eq_true rfl) (Nat.le_of_ble_eq_true rfl) (Nat.le_of_ble_eq_true rfl) dL_law_166 (fun q7 u H locs hw hP hS => ?_) rfl
  obtain ⟨rfl, rfl⟩ := hw
  have hP : va_P (dC, dI) vwCl (VW K ad J2 G A L) H := hP
  refine lv_pop hx hb dL_law_169 rfl ?_
  refine lv_goto (tgt := 1044) hx hb dL_law_170 (by decide) ?_
  exact kk J2 G A L H locs hr1 hP hS
set_option maxHeartbeats 4000000 in
set_option maxRecDepth 100000 in
/-- the law: variable -/
theorem law_c1 {p : Program} {l : Launch} {e : Env} {s : State} {m : MethodId} {below : List Frame} {meth : Method} {c : Code} {dC : Nat → ClassId} {dI : Nat → Nat → Nat} {b N : Nat} {xs : Nat → Int32} {K : Nat → ClassId} {ad : Nat → Nat} (C0 : lw_At p s m meth c b N xs) (hN : N ≤ 2560) (hK : va_K (dC, dI) vwCl (tyA K) s) (hap : apart ad (fun _ => True)) (hge : ∀ j, j < NS → s.heap.size ≤ ad j) {n : Nat} (hn : 5 * n + 5 ≤ N) (I : Nat → Nat → Int32) (G : Nat → Nat → Nat) (A : Nat → Nat → Int32) (L : Nat → Nat → Int64) (h : Rel n I G A L I A) (H : Heap) (locs : List Loc) (hP : va_P (dC, dI) vwCl (VW K ad I G A L) H) (hS : va_S (fun q : Nat => s.heap.size ≤ q) s.heap H locs) (ls : Array Slot) (hl : lv_has ls 4 [(3, .int (nI (5 * n))), (2, .ref (ad 318)), (1, .ref (ad 0)), (0, .ref b)]) (kk : ∀ (I : Nat → Nat → Int32) (G : Nat → Nat → Nat) (A : Nat → Nat → Int32) (L : Nat → Nat → Int64) (H : Heap) (locs : List Loc), Rel (n + 1) I G A L I A → va_P (dC, dI) vwCl (VW K ad I G A L) H → va_S (fun q : Nat => s.heap.size ≤ q) s.heap H locs → W p l e room_1 s m #[Value.ref b] below meth c H locs 378 153906 (lw_Z below #[Value.ref b] s) (F0 m 1044 ls [])) : W p l e room_1 s m #[Value.ref b] below meth c H locs 378 153906 (lw_Z below #[Value.ref b] s) (F0 m 173 ls []) := by
  obtain ⟨hx, hb, hr, hml, hown, hts0, hX, hbl, hlocks, hgv⟩ := id C0
  have hts : ∀ w ∈ wsL_law, w.before #[Value.ref b] s = true := fun w h => hts0 w (wsL_law_in w h)
  have hown : s.vm.findClass RL = some m.cls := hown
  have hA : ∀ q : Nat, s.heap.size ≤ q → (fun q : Nat => s.heap.size ≤ q) q := fun _ h => h
  have hbA : ¬ (fun q : Nat => s.heap.size ≤ q) b := Nat.not_le.mpr hbl
  obtain ⟨r, I1, A1, J2, R2, e1, e2, hr1⟩ := g_variable (xs (nI (5 * n) + 1).toNatClampNeg) (xs (nI (5 * n) + 2).toNatClampNeg) (xs (nI (5 * n) + 3).toNatClampNeg) h (by omega)
  refine lv_aload_n hx hb dL_law_173 rfl (lv_at hl 2 rfl) ?_
  refine lv_aload_n hx hb dL_law_174 rfl (lv_at hl 3 rfl) ?_
  refine lv_iload_n hx hb dL_law_175 rfl (lv_at hl 0 rfl) ?_
  refine lv_iconst (v := 1) hx hb dL_law_176 (by decide) ?_
  refine lv_iadd hx hb dL_law_177 ?_
  refine va_sld hx hb hX hbl hbA hS (lw_in hN hn 1 (by decide)) dL_law_178 ?_
  refine lv_aload_n hx hb dL_law_179 rfl (lv_at hl 3 rfl) ?_
  refine lv_iload_n hx hb dL_law_180 rfl (lv_at hl 0 rfl) ?_
  refine lv_iconst (v := 2) hx hb dL_law_181 (by decide) ?_
  refine lv_iadd hx hb dL_law_182 ?_
  refine va_sld hx hb hX hbl hbA hS (lw_in hN hn 2 (by decide)) dL_law_183 ?_
  refine lv_aload_n hx hb dL_law_184 rfl (lv_at hl 3 rfl) ?_
  refine lv_iload_n hx hb dL_law_185 rfl (lv_at hl 0 rfl) ?_
  refine lv_iconst (v := 3) hx hb dL_law_186 (by decide) ?_
  refine lv_iadd hx hb dL_law_187 ?_
  refine va_sld hx hb hX hbl hbA hS (lw_in hN hn 3 (by decide)) dL_law_188 ?_
  refine vcL (j := 0) (As := [.int (xs (nI (5 * n) + 1).toNatClampNeg), .int (xs (nI (5 * n) + 2).toNatClampNeg), .int (xs (nI (5 * n) + 3).toNatClampNeg)]) (rest := []) ⟨hx, hb, hml, hown, hts⟩ (e_X6_variable l (dC, dI) K ad hap _ _ _ _ _ _ _  _ _ _ e1) (cwV 3 hts gL_law_X6_variable rfl rfl rfl (by decide +kernel) ⟨Nat.le_of_ble_eq_true rfl, Nat.le_of_ble_eq_true rfl⟩) hK hP hS hge (by decide) (show kd 0 = 6 by decide) (by decide) rfl rfl rfl hl.1 (Nat.le_of_ble_eq_true rfl) (Nat.le_of_ble_eq_true rfl) (Nat.le_of_ble_eq_true rfl) dL_law_189 (fun q6 u H locs hw hP hS => ?_) rfl
  obtain ⟨rfl, rfl⟩ := hw
  have hP : va_P (dC, dI) vwCl (VW K ad I1 G A1 L) H := hP
  refine lv_pop hx hb dL_law_192 rfl ?_
  refine lv_aload_n hx hb dL_law_193 rfl (lv_at hl 1 rfl) ?_
  refine lv_aload_n hx hb dL_law_194 rfl (lv_at hl 3 rfl) ?_
  refine lv_iload_n hx hb dL_law_195 rfl (lv_at hl 0 rfl) ?_
  refine lv_iconst (v := 1) hx hb dL_law_196 (by decide) ?_
  refine lv_iadd hx hb dL_law_197 ?_
  refine va_sld hx hb hX hbl hbA hS (lw_in hN hn 1 (by decide)) dL_law_198 ?_
  refine lv_aload_n hx hb dL_law_199 rfl (lv_at hl 3 rfl) ?_
  refine lv_iload_n hx hb dL_law_200 rfl (lv_at hl 0 rfl) ?_
  refine lv_iconst (v := 2) hx hb dL_law_201 (by decide) ?_
  refine lv_iadd hx hb dL_law_202 ?_
  refine va_sld hx hb hX hbl hbA hS (lw_in hN hn 2 (by decide)) dL_law_203 ?_
  refine lv_aload_n hx hb dL_law_204 rfl (lv_at hl 3 rfl) ?_
  refine lv_iload_n hx hb dL_law_205 rfl (lv_at hl 0 rfl) ?_
  refine lv_iconst (v := 3) hx hb dL_law_206 (by decide) ?_
  refine lv_iadd hx hb dL_law_207 ?_
  refine va_sld hx hb hX hbl hbA hS (lw_in hN hn 3 (by decide)) dL_law_208 ?_
  refine vcL (j := 318) (As := [.int (xs (nI (5 * n) + 1).toNatClampNeg), .int (xs (nI (5 * n) + 2).toNatClampNeg), .int (xs (nI (5 * n) + 3).toNatClampNeg)]) (rest := []) ⟨hx, hb, hml, hown, hts⟩ (e_X7_variable l (dC, dI) K ad hap _ _ _ _ _ _ _  _ _ _ e2) (cwV 3 hts gL_law_X7_variable rfl rfl rfl (by decide +kernel) ⟨Nat.le_of_ble_eq_true rfl, Nat.le_of_ble_eq_true rfl⟩) hK hP hS hge (by decide) (show kd 318 = 7 by decide) (by decide) rfl rfl rfl hl.1 (Nat.le_of_ble_eq_true rfl) (Nat.le_of_ble_eq_true rfl) (Nat.le_of_ble_eq_true rfl) dL_law_209 (fun q7 u H locs hw hP hS => ?_) rfl
  obtain ⟨rfl, rfl⟩ := hw
  have hP : va_P (dC, dI) vwCl (VW K ad J2 G R2 L) H := hP
  refine lv_pop hx hb dL_law_212 rfl ?_
  refine lv_goto (tgt := 1044) hx hb dL_law_213 (by decide) ?_
  exact kk J2 G R2 L H locs hr1 hP hS
set_option maxHeartbeats 4000000 in
set_option maxRecDepth 100000 in
/-- the law: cost -/
theorem law_c2 {p : Program} {l : Launch} {e : Env} {s : State} {m : MethodId} {below : List Frame} {meth : Method} {c : Code} {dC : Nat → ClassId} {dI : Nat → Nat → Nat} {b N : Nat} {xs : Nat → Int32} {K : Nat → ClassId} {ad : Nat → Nat} (C0 : lw_At p s m meth c b N xs) (hN : N ≤ 2560) (hK : va_K (dC, dI) vwCl (tyA K) s) (hap : apart ad (fun _ => True)) (hge : ∀ j, j < NS → s.heap.size ≤ ad j) {n : Nat} (hn : 5 * n + 5 ≤ N) (I : Nat → Nat → Int32) (G : Nat → Nat → Nat) (A : Nat → Nat → Int32) (L : Nat → Nat → Int64) (h : Rel n I G A L I A) (H : Heap) (locs : List Loc) (hP : va_P (dC, dI) vwCl (VW K ad I G A L) H) (hS : va_S (fun q : Nat => s.heap.size ≤ q) s.heap H locs) (ls : Array Slot) (hl : lv_has ls 4 [(3, .int (nI (5 * n))), (2, .ref (ad 318)), (1, .ref (ad 0)), (0, .ref b)]) (kk : ∀ (I : Nat → Nat → Int32) (G : Nat → Nat → Nat) (A : Nat → Nat → Int32) (L : Nat → Nat → Int64) (H : Heap) (locs : List Loc), Rel (n + 1) I G A L I A → va_P (dC, dI) vwCl (VW K ad I G A L) H → va_S (fun q : Nat => s.heap.size ≤ q) s.heap H locs → W p l e room_1 s m #[Value.ref b] below meth c H locs 378 153906 (lw_Z below #[Value.ref b] s) (F0 m 1044 ls [])) : W p l e room_1 s m #[Value.ref b] below meth c H locs 378 153906 (lw_Z below #[Value.ref b] s) (F0 m 216 ls []) := by
  obtain ⟨hx, hb, hr, hml, hown, hts0, hX, hbl, hlocks, hgv⟩ := id C0
  have hts : ∀ w ∈ wsL_law, w.before #[Value.ref b] s = true := fun w h => hts0 w (wsL_law_in w h)
  have hown : s.vm.findClass RL = some m.cls := hown
  have hA : ∀ q : Nat, s.heap.size ≤ q → (fun q : Nat => s.heap.size ≤ q) q := fun _ h => h
  have hbA : ¬ (fun q : Nat => s.heap.size ≤ q) b := Nat.not_le.mpr hbl
  obtain ⟨r, I1, A1, J2, R2, e1, e2, hr1⟩ := g_cost (xs (nI (5 * n) + 1).toNatClampNeg) (xs (nI (5 * n) + 2).toNatClampNeg) (xs (nI (5 * n) + 3).toNatClampNeg) (xs (nI (5 * n) + 4).toNatClampNeg) h (by omega)
  refine lv_aload_n hx hb dL_law_216 rfl (lv_at hl 2 rfl) ?_
  refine lv_aload_n hx hb dL_law_217 rfl (lv_at hl 3 rfl) ?_
  refine lv_iload_n hx hb dL_law_218 rfl (lv_at hl 0 rfl) ?_
  refine lv_iconst (v := 1) hx hb dL_law_219 (by decide) ?_
  refine lv_iadd hx hb dL_law_220 ?_
  refine va_sld hx hb hX hbl hbA hS (lw_in hN hn 1 (by decide)) dL_law_221 ?_
  refine lv_aload_n hx hb dL_law_222 rfl (lv_at hl 3 rfl) ?_
  refine lv_iload_n hx hb dL_law_223 rfl (lv_at hl 0 rfl) ?_
  refine lv_iconst (v := 2) hx hb dL_law_224 (by decide) ?_
  refine lv_iadd hx hb dL_law_225 ?_
  refine va_sld hx hb hX hbl hbA hS (lw_in hN hn 2 (by decide)) dL_law_226 ?_
  refine lv_aload_n hx hb dL_law_227 rfl (lv_at hl 3 rfl) ?_
  refine lv_iload_n hx hb dL_law_228 rfl (lv_at hl 0 rfl) ?_
  refine lv_iconst (v := 3) hx hb dL_law_229 (by decide) ?_
  refine lv_iadd hx hb dL_law_230 ?_
  refine va_sld hx hb hX hbl hbA hS (lw_in hN hn 3 (by decide)) dL_law_231 ?_
  refine lv_aload_n hx hb dL_law_232 rfl (lv_at hl 3 rfl) ?_
  refine lv_iload_n hx hb dL_law_233 rfl (lv_at hl 0 rfl) ?_
  refine lv_iconst (v := 4) hx hb dL_law_234 (by decide) ?_
  refine lv_iadd hx hb dL_law_235 ?_
  refine va_sld hx hb hX hbl hbA hS (lw_in hN hn 4 (by decide)) dL_law_236 ?_
  refine vcL (j := 0) (As := [.int (xs (nI (5 * n) + 1).toNatClampNeg), .int (xs (nI (5 * n) + 2).toNatClampNeg), .int (xs (nI (5 * n) + 3).toNatClampNeg), .int (xs (nI (5 * n) + 4).toNatClampNeg)]) (rest := []) ⟨hx, hb, hml, hown, hts⟩ (e_X6_cost l (dC, dI) K ad hap _ _ _ _ _ _ _ _  _ _ _ e1) (cwV 4 hts gL_law_X6_cost rfl rfl rfl (by decide +kernel) ⟨Nat.le_of_ble_eq_true rfl, Nat.le_of_ble_eq_true rfl⟩) hK hP hS hge (by decide) (show kd 0 = 6 by decide) (by decide) rfl rfl rfl hl.1 (Nat.le_of_ble_eq_true rfl) (Nat.le_of_ble_eq_true rfl) (Nat.le_of_ble_eq_true rfl) dL_law_237 (fun q6 u H locs hw hP hS => ?_) rfl
  obtain ⟨rfl, rfl⟩ := hw
  have hP : va_P (dC, dI) vwCl (VW K ad I1 G A1 L) H := hP
  refine lv_pop hx hb dL_law_240 rfl ?_
  refine lv_aload_n hx hb dL_law_241 rfl (lv_at hl 1 rfl) ?_
  refine lv_aload_n hx hb dL_law_242 rfl (lv_at hl 3 rfl) ?_
  refine lv_iload_n hx hb dL_law_243 rfl (lv_at hl 0 rfl) ?_
  refine lv_iconst (v := 1) hx hb dL_law_244 (by decide) ?_
  refine lv_iadd hx hb dL_law_245 ?_
  refine va_sld hx hb hX hbl hbA hS (lw_in hN hn 1 (by decide)) dL_law_246 ?_
  refine lv_aload_n hx hb dL_law_247 rfl (lv_at hl 3 rfl) ?_
  refine lv_iload_n hx hb dL_law_248 rfl (lv_at hl 0 rfl) ?_
  refine lv_iconst (v := 2) hx hb dL_law_249 (by decide) ?_
  refine lv_iadd hx hb dL_law_250 ?_
  refine va_sld hx hb hX hbl hbA hS (lw_in hN hn 2 (by decide)) dL_law_251 ?_
  refine lv_aload_n hx hb dL_law_252 rfl (lv_at hl 3 rfl) ?_
  refine lv_iload_n hx hb dL_law_253 rfl (lv_at hl 0 rfl) ?_
  refine lv_iconst (v := 3) hx hb dL_law_254 (by decide) ?_
  refine lv_iadd hx hb dL_law_255 ?_
  refine va_sld hx hb hX hbl hbA hS (lw_in hN hn 3 (by decide)) dL_law_256 ?_
  refine lv_aload_n hx hb dL_law_257 rfl (lv_at hl 3 rfl) ?_
  refine lv_iload_n hx hb dL_law_258 rfl (lv_at hl 0 rfl) ?_
  refine lv_iconst (v := 4) hx hb dL_law_259 (by decide) ?_
  refine lv_iadd hx hb dL_law_260 ?_
  refine va_sld hx hb hX hbl hbA hS (lw_in hN hn 4 (by decide)) dL_law_261 ?_
  refine vcL (j := 318) (As := [.int (xs (nI (5 * n) + 1).toNatClampNeg), .int (xs (nI (5 * n) + 2).toNatClampNeg), .int (xs (nI (5 * n) + 3).toNatClampNeg), .int (xs (nI (5 * n) + 4).toNatClampNeg)]) (rest := []) ⟨hx, hb, hml, hown, hts⟩ (e_X7_cost l (dC, dI) K ad hap _ _ _ _ _ _ _ _  _ _ _ e2) (cwV 4 hts gL_law_X7_cost rfl rfl rfl (by decide +kernel) ⟨Nat.le_of_ble_eq_true rfl, Nat.le_of_ble_eq_true rfl⟩) hK hP hS hge (by decide) (show kd 318 = 7 by decide) (by decide) rfl rfl rfl hl.1 (Nat.le_of_ble_eq_true rfl) (Nat.le_of_ble_eq_true rfl) (Nat.le_of_ble_eq_true rfl) dL_law_262 (fun q7 u H locs hw hP hS => ?_) rfl
  obtain ⟨rfl, rfl⟩ := hw
  have hP : va_P (dC, dI) vwCl (VW K ad J2 G R2 L) H := hP
  refine lv_pop hx hb dL_law_265 rfl ?_
  refine lv_goto (tgt := 1044) hx hb dL_law_266 (by decide) ?_
  exact kk J2 G R2 L H locs hr1 hP hS
set_option maxHeartbeats 4000000 in
set_option maxRecDepth 100000 in
/-- the law: rule -/
theorem law_c3 {p : Program} {l : Launch} {e : Env} {s : State} {m : MethodId} {below : List Frame} {meth : Method} {c : Code} {dC : Nat → ClassId} {dI : Nat → Nat → Nat} {b N : Nat} {xs : Nat → Int32} {K : Nat → ClassId} {ad : Nat → Nat} (C0 : lw_At p s m meth c b N xs) (hN : N ≤ 2560) (hK : va_K (dC, dI) vwCl (tyA K) s) (hap : apart ad (fun _ => True)) (hge : ∀ j, j < NS → s.heap.size ≤ ad j) {n : Nat} (hn : 5 * n + 5 ≤ N) (I : Nat → Nat → Int32) (G : Nat → Nat → Nat) (A : Nat → Nat → Int32) (L : Nat → Nat → Int64) (h : Rel n I G A L I A) (H : Heap) (locs : List Loc) (hP : va_P (dC, dI) vwCl (VW K ad I G A L) H) (hS : va_S (fun q : Nat => s.heap.size ≤ q) s.heap H locs) (ls : Array Slot) (hl : lv_has ls 4 [(3, .int (nI (5 * n))), (2, .ref (ad 318)), (1, .ref (ad 0)), (0, .ref b)]) (kk : ∀ (I : Nat → Nat → Int32) (G : Nat → Nat → Nat) (A : Nat → Nat → Int32) (L : Nat → Nat → Int64) (H : Heap) (locs : List Loc), Rel (n + 1) I G A L I A → va_P (dC, dI) vwCl (VW K ad I G A L) H → va_S (fun q : Nat => s.heap.size ≤ q) s.heap H locs → W p l e room_1 s m #[Value.ref b] below meth c H locs 378 153906 (lw_Z below #[Value.ref b] s) (F0 m 1044 ls [])) : W p l e room_1 s m #[Value.ref b] below meth c H locs 378 153906 (lw_Z below #[Value.ref b] s) (F0 m 269 ls []) := by
  obtain ⟨hx, hb, hr, hml, hown, hts0, hX, hbl, hlocks, hgv⟩ := id C0
  have hts : ∀ w ∈ wsL_law, w.before #[Value.ref b] s = true := fun w h => hts0 w (wsL_law_in w h)
  have hown : s.vm.findClass RL = some m.cls := hown
  have hA : ∀ q : Nat, s.heap.size ≤ q → (fun q : Nat => s.heap.size ≤ q) q := fun _ h => h
  have hbA : ¬ (fun q : Nat => s.heap.size ≤ q) b := Nat.not_le.mpr hbl
  obtain ⟨r, I1, J2, R2, e1, e2, hr1⟩ := g_rule (xs (nI (5 * n) + 1).toNatClampNeg) (xs (nI (5 * n) + 2).toNatClampNeg) (xs (nI (5 * n) + 3).toNatClampNeg) h (by omega)
  refine lv_aload_n hx hb dL_law_269 rfl (lv_at hl 2 rfl) ?_
  refine lv_aload_n hx hb dL_law_270 rfl (lv_at hl 3 rfl) ?_
  refine lv_iload_n hx hb dL_law_271 rfl (lv_at hl 0 rfl) ?_
  refine lv_iconst (v := 1) hx hb dL_law_272 (by decide) ?_
  refine lv_iadd hx hb dL_law_273 ?_
  refine va_sld hx hb hX hbl hbA hS (lw_in hN hn 1 (by decide)) dL_law_274 ?_
  refine lv_aload_n hx hb dL_law_275 rfl (lv_at hl 3 rfl) ?_
  refine lv_iload_n hx hb dL_law_276 rfl (lv_at hl 0 rfl) ?_
  refine lv_iconst (v := 2) hx hb dL_law_277 (by decide) ?_
  refine lv_iadd hx hb dL_law_278 ?_
  refine va_sld hx hb hX hbl hbA hS (lw_in hN hn 2 (by decide)) dL_law_279 ?_
  refine lv_aload_n hx hb dL_law_280 rfl (lv_at hl 3 rfl) ?_
  refine lv_iload_n hx hb dL_law_281 rfl (lv_at hl 0 rfl) ?_
  refine lv_iconst (v := 3) hx hb dL_law_282 (by decide) ?_
  refine lv_iadd hx hb dL_law_283 ?_
  refine va_sld hx hb hX hbl hbA hS (lw_in hN hn 3 (by decide)) dL_law_284 ?_
  refine vcL (j := 0) (As := [.int (xs (nI (5 * n) + 1).toNatClampNeg), .int (xs (nI (5 * n) + 2).toNatClampNeg), .int (xs (nI (5 * n) + 3).toNatClampNeg)]) (rest := []) ⟨hx, hb, hml, hown, hts⟩ (e_X6_rule l (dC, dI) K ad hap _ _ _ _ _ _ _  _ _ e1) (cwV 3 hts gL_law_X6_rule rfl rfl rfl (by decide +kernel) ⟨Nat.le_of_ble_eq_true rfl, Nat.le_of_ble_eq_true rfl⟩) hK hP hS hge (by decide) (show kd 0 = 6 by decide) (by decide) rfl rfl rfl hl.1 (Nat.le_of_ble_eq_true rfl) (Nat.le_of_ble_eq_true rfl) (Nat.le_of_ble_eq_true rfl) dL_law_285 (fun q6 u H locs hw hP hS => ?_) rfl
  obtain ⟨rfl, rfl⟩ := hw
  have hP : va_P (dC, dI) vwCl (VW K ad I1 G A L) H := hP
  refine lv_pop hx hb dL_law_288 rfl ?_
  refine lv_aload_n hx hb dL_law_289 rfl (lv_at hl 1 rfl) ?_
  refine lv_aload_n hx hb dL_law_290 rfl (lv_at hl 3 rfl) ?_
  refine lv_iload_n hx hb dL_law_291 rfl (lv_at hl 0 rfl) ?_
  refine lv_iconst (v := 1) hx hb dL_law_292 (by decide) ?_
  refine lv_iadd hx hb dL_law_293 ?_
  refine va_sld hx hb hX hbl hbA hS (lw_in hN hn 1 (by decide)) dL_law_294 ?_
  refine lv_aload_n hx hb dL_law_295 rfl (lv_at hl 3 rfl) ?_
  refine lv_iload_n hx hb dL_law_296 rfl (lv_at hl 0 rfl) ?_
  refine lv_iconst (v := 2) hx hb dL_law_297 (by decide) ?_
  refine lv_iadd hx hb dL_law_298 ?_
  refine va_sld hx hb hX hbl hbA hS (lw_in hN hn 2 (by decide)) dL_law_299 ?_
  refine lv_aload_n hx hb dL_law_300 rfl (lv_at hl 3 rfl) ?_
  refine lv_iload_n hx hb dL_law_301 rfl (lv_at hl 0 rfl) ?_
  refine lv_iconst (v := 3) hx hb dL_law_302 (by decide) ?_
  refine lv_iadd hx hb dL_law_303 ?_
  refine va_sld hx hb hX hbl hbA hS (lw_in hN hn 3 (by decide)) dL_law_304 ?_
  refine vcL (j := 318) (As := [.int (xs (nI (5 * n) + 1).toNatClampNeg), .int (xs (nI (5 * n) + 2).toNatClampNeg), .int (xs (nI (5 * n) + 3).toNatClampNeg)]) (rest := []) ⟨hx, hb, hml, hown, hts⟩ (e_X7_rule l (dC, dI) K ad hap _ _ _ _ _ _ _  _ _ _ e2) (cwV 3 hts gL_law_X7_rule rfl rfl rfl (by decide +kernel) ⟨Nat.le_of_ble_eq_true rfl, Nat.le_of_ble_eq_true rfl⟩) hK hP hS hge (by decide) (show kd 318 = 7 by decide) (by decide) rfl rfl rfl hl.1 (Nat.le_of_ble_eq_true rfl) (Nat.le_of_ble_eq_true rfl) (Nat.le_of_ble_eq_true rfl) dL_law_305 (fun q7 u H locs hw hP hS => ?_) rfl
  obtain ⟨rfl, rfl⟩ := hw
  have hP : va_P (dC, dI) vwCl (VW K ad J2 G R2 L) H := hP
  refine lv_pop hx hb dL_law_308 rfl ?_
  refine lv_goto (tgt := 1044) hx hb dL_law_309 (by decide) ?_
  exact kk J2 G R2 L H locs hr1 hP hS
set_option maxHeartbeats 4000000 in
set_option maxRecDepth 100000 in
/-- the law: part -/
theorem law_c4 {p : Program} {l : Launch} {e : Env} {s : State} {m : MethodId} {below : List Frame} {meth : Method} {c : Code} {dC : Nat → ClassId} {dI : Nat → Nat → Nat} {b N : Nat} {xs : Nat → Int32} {K : Nat → ClassId} {ad : Nat → Nat} (C0 : lw_At p s m meth c b N xs) (hN : N ≤ 2560) (hK : va_K (dC, dI) vwCl (tyA K) s) (hap : apart ad (fun _ => True)) (hge : ∀ j, j < NS → s.heap.size ≤ ad j) {n : Nat} (hn : 5 * n + 5 ≤ N) (I : Nat → Nat → Int32) (G : Nat → Nat → Nat) (A : Nat → Nat → Int32) (L : Nat → Nat → Int64) (h : Rel n I G A L I A) (H : Heap) (locs : List Loc) (hP : va_P (dC, dI) vwCl (VW K ad I G A L) H) (hS : va_S (fun q : Nat => s.heap.size ≤ q) s.heap H locs) (ls : Array Slot) (hl : lv_has ls 4 [(3, .int (nI (5 * n))), (2, .ref (ad 318)), (1, .ref (ad 0)), (0, .ref b)]) (kk : ∀ (I : Nat → Nat → Int32) (G : Nat → Nat → Nat) (A : Nat → Nat → Int32) (L : Nat → Nat → Int64) (H : Heap) (locs : List Loc), Rel (n + 1) I G A L I A → va_P (dC, dI) vwCl (VW K ad I G A L) H → va_S (fun q : Nat => s.heap.size ≤ q) s.heap H locs → W p l e room_1 s m #[Value.ref b] below meth c H locs 378 153906 (lw_Z below #[Value.ref b] s) (F0 m 1044 ls [])) : W p l e room_1 s m #[Value.ref b] below meth c H locs 378 153906 (lw_Z below #[Value.ref b] s) (F0 m 312 ls []) := by
  obtain ⟨hx, hb, hr, hml, hown, hts0, hX, hbl, hlocks, hgv⟩ := id C0
  have hts : ∀ w ∈ wsL_law, w.before #[Value.ref b] s = true := fun w h => hts0 w (wsL_law_in w h)
  have hown : s.vm.findClass RL = some m.cls := hown
  have hA : ∀ q : Nat, s.heap.size ≤ q → (fun q : Nat => s.heap.size ≤ q) q := fun _ h => h
  have hbA : ¬ (fun q : Nat => s.heap.size ≤ q) b := Nat.not_le.mpr hbl
  obtain ⟨r, I1, A1, J2, R2, e1, e2, hr1⟩ := g_part (xs (nI (5 * n) + 1).toNatClampNeg) (xs (nI (5 * n) + 2).toNatClampNeg) (xs (nI (5 * n) + 3).toNatClampNeg) (xs (nI (5 * n) + 4).toNatClampNeg) h (by omega)
  refine lv_aload_n hx hb dL_law_312 rfl (lv_at hl 2 rfl) ?_
  refine lv_aload_n hx hb dL_law_313 rfl (lv_at hl 3 rfl) ?_
  refine lv_iload_n hx hb dL_law_314 rfl (lv_at hl 0 rfl) ?_
  refine lv_iconst (v := 1) hx hb dL_law_315 (by decide) ?_
  refine lv_iadd hx hb dL_law_316 ?_
  refine va_sld hx hb hX hbl hbA hS (lw_in hN hn 1 (by decide)) dL_law_317 ?_
  refine lv_aload_n hx hb dL_law_318 rfl (lv_at hl 3 rfl) ?_
  refine lv_iload_n hx hb dL_law_319 rfl (lv_at hl 0 rfl) ?_
  refine lv_iconst (v := 2) hx hb dL_law_320 (by decide) ?_
  refine lv_iadd hx hb dL_law_321 ?_
  refine va_sld hx hb hX hbl hbA hS (lw_in hN hn 2 (by decide)) dL_law_322 ?_
  refine lv_aload_n hx hb dL_law_323 rfl (lv_at hl 3 rfl) ?_
  refine lv_iload_n hx hb dL_law_324 rfl (lv_at hl 0 rfl) ?_
  refine lv_iconst (v := 3) hx hb dL_law_325 (by decide) ?_
  refine lv_iadd hx hb dL_law_326 ?_
  refine va_sld hx hb hX hbl hbA hS (lw_in hN hn 3 (by decide)) dL_law_327 ?_
  refine lv_aload_n hx hb dL_law_328 rfl (lv_at hl 3 rfl) ?_
  refine lv_iload_n hx hb dL_law_329 rfl (lv_at hl 0 rfl) ?_
  refine lv_iconst (v := 4) hx hb dL_law_330 (by decide) ?_
  refine lv_iadd hx hb dL_law_331 ?_
  refine va_sld hx hb hX hbl hbA hS (lw_in hN hn 4 (by decide)) dL_law_332 ?_
  refine vcL (j := 0) (As := [.int (xs (nI (5 * n) + 1).toNatClampNeg), .int (xs (nI (5 * n) + 2).toNatClampNeg), .int (xs (nI (5 * n) + 3).toNatClampNeg), .int (xs (nI (5 * n) + 4).toNatClampNeg)]) (rest := []) ⟨hx, hb, hml, hown, hts⟩ (e_X6_part l (dC, dI) K ad hap _ _ _ _ _ _ _ _  _ _ _ e1) (cwV 4 hts gL_law_X6_part rfl rfl rfl (by decide +kernel) ⟨Nat.le_of_ble_eq_true rfl, Nat.le_of_ble_eq_true rfl⟩) hK hP hS hge (by decide) (show kd 0 = 6 by decide) (by decide) rfl rfl rfl hl.1 (Nat.le_of_ble_eq_true rfl) (Nat.le_of_ble_eq_true rfl) (Nat.le_of_ble_eq_true rfl) dL_law_333 (fun q6 u H locs hw hP hS => ?_) rfl
  obtain ⟨rfl, rfl⟩ := hw
  have hP : va_P (dC, dI) vwCl (VW K ad I1 G A1 L) H := hP
  refine lv_pop hx hb dL_law_336 rfl ?_
  refine lv_aload_n hx hb dL_law_337 rfl (lv_at hl 1 rfl) ?_
  refine lv_aload_n hx hb dL_law_338 rfl (lv_at hl 3 rfl) ?_
  refine lv_iload_n hx hb dL_law_339 rfl (lv_at hl 0 rfl) ?_
  refine lv_iconst (v := 1) hx hb dL_law_340 (by decide) ?_
  refine lv_iadd hx hb dL_law_341 ?_
  refine va_sld hx hb hX hbl hbA hS (lw_in hN hn 1 (by decide)) dL_law_342 ?_
  refine lv_aload_n hx hb dL_law_343 rfl (lv_at hl 3 rfl) ?_
  refine lv_iload_n hx hb dL_law_344 rfl (lv_at hl 0 rfl) ?_
  refine lv_iconst (v := 2) hx hb dL_law_345 (by decide) ?_
  refine lv_iadd hx hb dL_law_346 ?_
  refine va_sld hx hb hX hbl hbA hS (lw_in hN hn 2 (by decide)) dL_law_347 ?_
  refine lv_aload_n hx hb dL_law_348 rfl (lv_at hl 3 rfl) ?_
  refine lv_iload_n hx hb dL_law_349 rfl (lv_at hl 0 rfl) ?_
  refine lv_iconst (v := 3) hx hb dL_law_350 (by decide) ?_
  refine lv_iadd hx hb dL_law_351 ?_
  refine va_sld hx hb hX hbl hbA hS (lw_in hN hn 3 (by decide)) dL_law_352 ?_
  refine lv_aload_n hx hb dL_law_353 rfl (lv_at hl 3 rfl) ?_
  refine lv_iload_n hx hb dL_law_354 rfl (lv_at hl 0 rfl) ?_
  refine lv_iconst (v := 4) hx hb dL_law_355 (by decide) ?_
  refine lv_iadd hx hb dL_law_356 ?_
  refine va_sld hx hb hX hbl hbA hS (lw_in hN hn 4 (by decide)) dL_law_357 ?_
  refine vcL (j := 318) (As := [.int (xs (nI (5 * n) + 1).toNatClampNeg), .int (xs (nI (5 * n) + 2).toNatClampNeg), .int (xs (nI (5 * n) + 3).toNatClampNeg), .int (xs (nI (5 * n) + 4).toNatClampNeg)]) (rest := []) ⟨hx, hb, hml, hown, hts⟩ (e_X7_part l (dC, dI) K ad hap _ _ _ _ _ _ _ _  _ _ _ e2) (cwV 4 hts gL_law_X7_part rfl rfl rfl (by decide +kernel) ⟨Nat.le_of_ble_eq_true rfl, Nat.le_of_ble_eq_true rfl⟩) hK hP hS hge (by decide) (show kd 318 = 7 by decide) (by decide) rfl rfl rfl hl.1 (Nat.le_of_ble_eq_true rfl) (Nat.le_of_ble_eq_true rfl) (Nat.le_of_ble_eq_true rfl) dL_law_358 (fun q7 u H locs hw hP hS => ?_) rfl
  obtain ⟨rfl, rfl⟩ := hw
  have hP : va_P (dC, dI) vwCl (VW K ad J2 G R2 L) H := hP
  refine lv_pop hx hb dL_law_361 rfl ?_
  refine lv_goto (tgt := 1044) hx hb dL_law_362 (by decide) ?_
  exact kk J2 G R2 L H locs hr1 hP hS
set_option maxHeartbeats 4000000 in
set_option maxRecDepth 100000 in
/-- the law: number -/
theorem law_c5 {p : Program} {l : Launch} {e : Env} {s : State} {m : MethodId} {below : List Frame} {meth : Method} {c : Code} {dC : Nat → ClassId} {dI : Nat → Nat → Nat} {b N : Nat} {xs : Nat → Int32} {K : Nat → ClassId} {ad : Nat → Nat} (C0 : lw_At p s m meth c b N xs) (hN : N ≤ 2560) (hK : va_K (dC, dI) vwCl (tyA K) s) (hap : apart ad (fun _ => True)) (hge : ∀ j, j < NS → s.heap.size ≤ ad j) {n : Nat} (hn : 5 * n + 5 ≤ N) (I : Nat → Nat → Int32) (G : Nat → Nat → Nat) (A : Nat → Nat → Int32) (L : Nat → Nat → Int64) (h : Rel n I G A L I A) (H : Heap) (locs : List Loc) (hP : va_P (dC, dI) vwCl (VW K ad I G A L) H) (hS : va_S (fun q : Nat => s.heap.size ≤ q) s.heap H locs) (ls : Array Slot) (hl : lv_has ls 4 [(3, .int (nI (5 * n))), (2, .ref (ad 318)), (1, .ref (ad 0)), (0, .ref b)]) (kk : ∀ (I : Nat → Nat → Int32) (G : Nat → Nat → Nat) (A : Nat → Nat → Int32) (L : Nat → Nat → Int64) (H : Heap) (locs : List Loc), Rel (n + 1) I G A L I A → va_P (dC, dI) vwCl (VW K ad I G A L) H → va_S (fun q : Nat => s.heap.size ≤ q) s.heap H locs → W p l e room_1 s m #[Value.ref b] below meth c H locs 378 153906 (lw_Z below #[Value.ref b] s) (F0 m 1044 ls [])) : W p l e room_1 s m #[Value.ref b] below meth c H locs 378 153906 (lw_Z below #[Value.ref b] s) (F0 m 365 ls []) := by
  obtain ⟨hx, hb, hr, hml, hown, hts0, hX, hbl, hlocks, hgv⟩ := id C0
  have hts : ∀ w ∈ wsL_law, w.before #[Value.ref b] s = true := fun w h => hts0 w (wsL_law_in w h)
  have hown : s.vm.findClass RL = some m.cls := hown
  have hA : ∀ q : Nat, s.heap.size ≤ q → (fun q : Nat => s.heap.size ≤ q) q := fun _ h => h
  have hbA : ¬ (fun q : Nat => s.heap.size ≤ q) b := Nat.not_le.mpr hbl
  obtain ⟨r, I1, J2, R2, e1, e2, hr1⟩ := g_number (xs (nI (5 * n) + 1).toNatClampNeg) (xs (nI (5 * n) + 2).toNatClampNeg) (xs (nI (5 * n) + 3).toNatClampNeg) h (by omega)
  refine lv_aload_n hx hb dL_law_365 rfl (lv_at hl 2 rfl) ?_
  refine lv_aload_n hx hb dL_law_366 rfl (lv_at hl 3 rfl) ?_
  refine lv_iload_n hx hb dL_law_367 rfl (lv_at hl 0 rfl) ?_
  refine lv_iconst (v := 1) hx hb dL_law_368 (by decide) ?_
  refine lv_iadd hx hb dL_law_369 ?_
  refine va_sld hx hb hX hbl hbA hS (lw_in hN hn 1 (by decide)) dL_law_370 ?_
  refine lv_aload_n hx hb dL_law_371 rfl (lv_at hl 3 rfl) ?_
  refine lv_iload_n hx hb dL_law_372 rfl (lv_at hl 0 rfl) ?_
  refine lv_iconst (v := 2) hx hb dL_law_373 (by decide) ?_
  refine lv_iadd hx hb dL_law_374 ?_
  refine va_sld hx hb hX hbl hbA hS (lw_in hN hn 2 (by decide)) dL_law_375 ?_
  refine lv_aload_n hx hb dL_law_376 rfl (lv_at hl 3 rfl) ?_
  refine lv_iload_n hx hb dL_law_377 rfl (lv_at hl 0 rfl) ?_
  refine lv_iconst (v := 3) hx hb dL_law_378 (by decide) ?_
  refine lv_iadd hx hb dL_law_379 ?_
  refine va_sld hx hb hX hbl hbA hS (lw_in hN hn 3 (by decide)) dL_law_380 ?_
  refine vcL (j := 0) (As := [.int (xs (nI (5 * n) + 1).toNatClampNeg), .int (xs (nI (5 * n) + 2).toNatClampNeg), .int (xs (nI (5 * n) + 3).toNatClampNeg)]) (rest := []) ⟨hx, hb, hml, hown, hts⟩ (e_X6_number l (dC, dI) K ad hap _ _ _ _ _ _ _  _ _ e1) (cwV 3 hts gL_law_X6_number rfl rfl rfl (by decide +kernel) ⟨Nat.le_of_ble_eq_true rfl, Nat.le_of_ble_eq_true rfl⟩) hK hP hS hge (by decide) (show kd 0 = 6 by decide) (by decide) rfl rfl rfl hl.1 (Nat.le_of_ble_eq_true rfl) (Nat.le_of_ble_eq_true rfl) (Nat.le_of_ble_eq_true rfl) dL_law_381 (fun q6 u H locs hw hP hS => ?_) rfl
  obtain ⟨rfl, rfl⟩ := hw
  have hP : va_P (dC, dI) vwCl (VW K ad I1 G A L) H := hP
  refine lv_pop hx hb dL_law_384 rfl ?_
  refine lv_aload_n hx hb dL_law_385 rfl (lv_at hl 1 rfl) ?_
  refine lv_aload_n hx hb dL_law_386 rfl (lv_at hl 3 rfl) ?_
  refine lv_iload_n hx hb dL_law_387 rfl (lv_at hl 0 rfl) ?_
  refine lv_iconst (v := 1) hx hb dL_law_388 (by decide) ?_
  refine lv_iadd hx hb dL_law_389 ?_
  refine va_sld hx hb hX hbl hbA hS (lw_in hN hn 1 (by decide)) dL_law_390 ?_
  refine lv_aload_n hx hb dL_law_391 rfl (lv_at hl 3 rfl) ?_
  refine lv_iload_n hx hb dL_law_392 rfl (lv_at hl 0 rfl) ?_
  refine lv_iconst (v := 2) hx hb dL_law_393 (by decide) ?_
  refine lv_iadd hx hb dL_law_394 ?_
  refine va_sld hx hb hX hbl hbA hS (lw_in hN hn 2 (by decide)) dL_law_395 ?_
  refine lv_aload_n hx hb dL_law_396 rfl (lv_at hl 3 rfl) ?_
  refine lv_iload_n hx hb dL_law_397 rfl (lv_at hl 0 rfl) ?_
  refine lv_iconst (v := 3) hx hb dL_law_398 (by decide) ?_
  refine lv_iadd hx hb dL_law_399 ?_
  refine va_sld hx hb hX hbl hbA hS (lw_in hN hn 3 (by decide)) dL_law_400 ?_
  refine vcL (j := 318) (As := [.int (xs (nI (5 * n) + 1).toNatClampNeg), .int (xs (nI (5 * n) + 2).toNatClampNeg), .int (xs (nI (5 * n) + 3).toNatClampNeg)]) (rest := []) ⟨hx, hb, hml, hown, hts⟩ (e_X7_number l (dC, dI) K ad hap _ _ _ _ _ _ _  _ _ _ e2) (cwV 3 hts gL_law_X7_number rfl rfl rfl (by decide +kernel) ⟨Nat.le_of_ble_eq_true rfl, Nat.le_of_ble_eq_true rfl⟩) hK hP hS hge (by decide) (show kd 318 = 7 by decide) (by decide) rfl rfl rfl hl.1 (Nat.le_of_ble_eq_true rfl) (Nat.le_of_ble_eq_true rfl) (Nat.le_of_ble_eq_true rfl) dL_law_401 (fun q7 u H locs hw hP hS => ?_) rfl
  obtain ⟨rfl, rfl⟩ := hw
  have hP : va_P (dC, dI) vwCl (VW K ad J2 G R2 L) H := hP
  refine lv_pop hx hb dL_law_404 rfl ?_
  refine lv_goto (tgt := 1044) hx hb dL_law_405 (by decide) ?_
  exact kk J2 G R2 L H locs hr1 hP hS
set_option maxHeartbeats 4000000 in
set_option maxRecDepth 100000 in
/-- the law: helpers -/
theorem law_c6 {p : Program} {l : Launch} {e : Env} {s : State} {m : MethodId} {below : List Frame} {meth : Method} {c : Code} {dC : Nat → ClassId} {dI : Nat → Nat → Nat} {b N : Nat} {xs : Nat → Int32} {K : Nat → ClassId} {ad : Nat → Nat} (C0 : lw_At p s m meth c b N xs) (hN : N ≤ 2560) (hK : va_K (dC, dI) vwCl (tyA K) s) (hap : apart ad (fun _ => True)) (hge : ∀ j, j < NS → s.heap.size ≤ ad j) {n : Nat} (hn : 5 * n + 5 ≤ N) (I : Nat → Nat → Int32) (G : Nat → Nat → Nat) (A : Nat → Nat → Int32) (L : Nat → Nat → Int64) (h : Rel n I G A L I A) (H : Heap) (locs : List Loc) (hP : va_P (dC, dI) vwCl (VW K ad I G A L) H) (hS : va_S (fun q : Nat => s.heap.size ≤ q) s.heap H locs) (ls : Array Slot) (hl : lv_has ls 4 [(3, .int (nI (5 * n))), (2, .ref (ad 318)), (1, .ref (ad 0)), (0, .ref b)]) (kk : ∀ (I : Nat → Nat → Int32) (G : Nat → Nat → Nat) (A : Nat → Nat → Int32) (L : Nat → Nat → Int64) (H : Heap) (locs : List Loc), Rel (n + 1) I G A L I A → va_P (dC, dI) vwCl (VW K ad I G A L) H → va_S (fun q : Nat => s.heap.size ≤ q) s.heap H locs → W p l e room_1 s m #[Value.ref b] below meth c H locs 378 153906 (lw_Z below #[Value.ref b] s) (F0 m 1044 ls [])) : W p l e room_1 s m #[Value.ref b] below meth c H locs 378 153906 (lw_Z below #[Value.ref b] s) (F0 m 408 ls []) := by
  obtain ⟨hx, hb, hr, hml, hown, hts0, hX, hbl, hlocks, hgv⟩ := id C0
  have hts : ∀ w ∈ wsL_law, w.before #[Value.ref b] s = true := fun w h => hts0 w (wsL_law_in w h)
  have hown : s.vm.findClass RL = some m.cls := hown
  have hA : ∀ q : Nat, s.heap.size ≤ q → (fun q : Nat => s.heap.size ≤ q) q := fun _ h => h
  have hbA : ¬ (fun q : Nat => s.heap.size ≤ q) b := Nat.not_le.mpr hbl
  obtain ⟨r, I1, A1, J2, R2, e1, e2, hr1⟩ := g_helpers (xs (nI (5 * n) + 1).toNatClampNeg) h 
  refine lv_aload_n hx hb dL_law_408 rfl (lv_at hl 2 rfl) ?_
  refine lv_aload_n hx hb dL_law_409 rfl (lv_at hl 3 rfl) ?_
  refine lv_iload_n hx hb dL_law_410 rfl (lv_at hl 0 rfl) ?_
  refine lv_iconst (v := 1) hx hb dL_law_411 (by decide) ?_
  refine lv_iadd hx hb dL_law_412 ?_
  refine va_sld hx hb hX hbl hbA hS (lw_in hN hn 1 (by decide)) dL_law_413 ?_
  refine vcL (j := 0) (As := [.int (xs (nI (5 * n) + 1).toNatClampNeg)]) (rest := []) ⟨hx, hb, hml, hown, hts⟩ (e_X6_helpers l (dC, dI) K ad hap _ _ _ _ _  _ _ _ e1) (cwV 1 hts gL_law_X6_helpers rfl rfl rfl (by decide +kernel) ⟨Nat.le_of_ble_eq_true rfl, Nat.le_of_ble_eq_true rfl⟩) hK hP hS hge (by decide) (show kd 0 = 6 by decide) (by decide) rfl rfl rfl hl.1 (Nat.le_of_ble_eq_true rfl) (Nat.le_of_ble_eq_true rfl) (Nat.le_of_ble_eq_true rfl) dL_law_414 (fun q6 u H locs hw hP hS => ?_) rfl
  obtain ⟨rfl, rfl⟩ := hw
  have hP : va_P (dC, dI) vwCl (VW K ad I1 G A1 L) H := hP
  refine lv_pop hx hb dL_law_417 rfl ?_
  refine lv_aload_n hx hb dL_law_418 rfl (lv_at hl 1 rfl) ?_
  refine lv_aload_n hx hb dL_law_419 rfl (lv_at hl 3 rfl) ?_
  refine lv_iload_n hx hb dL_law_420 rfl (lv_at hl 0 rfl) ?_
  refine lv_iconst (v := 1) hx hb dL_law_421 (by decide) ?_
  refine lv_iadd hx hb dL_law_422 ?_
  refine va_sld hx hb hX hbl hbA hS (lw_in hN hn 1 (by decide)) dL_law_423 ?_
  refine vcL (j := 318) (As := [.int (xs (nI (5 * n) + 1).toNatClampNeg)]) (rest := []) ⟨hx, hb, hml, hown, hts⟩ (e_X7_helpers l (dC, dI) K ad hap _ _ _ _ _  _ _ _ e2) (cwV 1 hts gL_law_X7_helpers rfl rfl rfl (by decide +kernel) ⟨Nat.le_of_ble_eq_true rfl, Nat.le_of_ble_eq_true rfl⟩) hK hP hS hge (by decide) (show kd 318 = 7 by decide) (by decide) rfl rfl rfl hl.1 (Nat.le_of_ble_eq_true rfl) (Nat.le_of_ble_eq_true rfl) (Nat.le_of_ble_eq_true rfl) dL_law_424 (fun q7 u H locs hw hP hS => ?_) rfl
  obtain ⟨rfl, rfl⟩ := hw
  have hP : va_P (dC, dI) vwCl (VW K ad J2 G R2 L) H := hP
  refine lv_pop hx hb dL_law_427 rfl ?_
  refine lv_goto (tgt := 1044) hx hb dL_law_428 (by decide) ?_
  exact kk J2 G R2 L H locs hr1 hP hS
set_option maxHeartbeats 4000000 in
set_option maxRecDepth 100000 in
/-- the law: fail -/
theorem law_c7 {p : Program} {l : Launch} {e : Env} {s : State} {m : MethodId} {below : List Frame} {meth : Method} {c : Code} {dC : Nat → ClassId} {dI : Nat → Nat → Nat} {b N : Nat} {xs : Nat → Int32} {K : Nat → ClassId} {ad : Nat → Nat} (C0 : lw_At p s m meth c b N xs) (hN : N ≤ 2560) (hK : va_K (dC, dI) vwCl (tyA K) s) (hap : apart ad (fun _ => True)) (hge : ∀ j, j < NS → s.heap.size ≤ ad j) {n : Nat} (hn : 5 * n + 5 ≤ N) (I : Nat → Nat → Int32) (G : Nat → Nat → Nat) (A : Nat → Nat → Int32) (L : Nat → Nat → Int64) (h : Rel n I G A L I A) (H : Heap) (locs : List Loc) (hP : va_P (dC, dI) vwCl (VW K ad I G A L) H) (hS : va_S (fun q : Nat => s.heap.size ≤ q) s.heap H locs) (ls : Array Slot) (hl : lv_has ls 4 [(3, .int (nI (5 * n))), (2, .ref (ad 318)), (1, .ref (ad 0)), (0, .ref b)]) (kk : ∀ (I : Nat → Nat → Int32) (G : Nat → Nat → Nat) (A : Nat → Nat → Int32) (L : Nat → Nat → Int64) (H : Heap) (locs : List Loc), Rel (n + 1) I G A L I A → va_P (dC, dI) vwCl (VW K ad I G A L) H → va_S (fun q : Nat => s.heap.size ≤ q) s.heap H locs → W p l e room_1 s m #[Value.ref b] below meth c H locs 378 153906 (lw_Z below #[Value.ref b] s) (F0 m 1044 ls [])) : W p l e room_1 s m #[Value.ref b] below meth c H locs 378 153906 (lw_Z below #[Value.ref b] s) (F0 m 431 ls []) := by
  obtain ⟨hx, hb, hr, hml, hown, hts0, hX, hbl, hlocks, hgv⟩ := id C0
  have hts : ∀ w ∈ wsL_law, w.before #[Value.ref b] s = true := fun w h => hts0 w (wsL_law_in w h)
  have hown : s.vm.findClass RL = some m.cls := hown
  have hA : ∀ q : Nat, s.heap.size ≤ q → (fun q : Nat => s.heap.size ≤ q) q := fun _ h => h
  have hbA : ¬ (fun q : Nat => s.heap.size ≤ q) b := Nat.not_le.mpr hbl
  obtain ⟨r, A1, J2, R2, e1, e2, hr1⟩ := g_fail (xs (nI (5 * n) + 1).toNatClampNeg) (xs (nI (5 * n) + 2).toNatClampNeg) h 
  refine lv_aload_n hx hb dL_law_431 rfl (lv_at hl 2 rfl) ?_
  refine lv_aload_n hx hb dL_law_432 rfl (lv_at hl 3 rfl) ?_
  refine lv_iload_n hx hb dL_law_433 rfl (lv_at hl 0 rfl) ?_
  refine lv_iconst (v := 1) hx hb dL_law_434 (by decide) ?_
  refine lv_iadd hx hb dL_law_435 ?_
  refine va_sld hx hb hX hbl hbA hS (lw_in hN hn 1 (by decide)) dL_law_436 ?_
  refine lv_aload_n hx hb dL_law_437 rfl (lv_at hl 3 rfl) ?_
  refine lv_iload_n hx hb dL_law_438 rfl (lv_at hl 0 rfl) ?_
  refine lv_iconst (v := 2) hx hb dL_law_439 (by decide) ?_
  refine lv_iadd hx hb dL_law_440 ?_
  refine va_sld hx hb hX hbl hbA hS (lw_in hN hn 2 (by decide)) dL_law_441 ?_
  refine vcL (j := 0) (As := [.int (xs (nI (5 * n) + 1).toNatClampNeg), .int (xs (nI (5 * n) + 2).toNatClampNeg)]) (rest := []) ⟨hx, hb, hml, hown, hts⟩ (e_X6_fail l (dC, dI) K ad hap _ _ _ _ _ _  _ _ e1) (cwV 2 hts gL_law_X6_fail rfl rfl rfl (by decide +kernel) ⟨Nat.le_of_ble_eq_true rfl, Nat.le_of_ble_eq_true rfl⟩) hK hP hS hge (by decide) (show kd 0 = 6 by decide) (by decide) rfl rfl rfl hl.1 (Nat.le_of_ble_eq_true rfl) (Nat.le_of_ble_eq_true rfl) (Nat.le_of_ble_eq_true rfl) dL_law_442 (fun q6 u H locs hw hP hS => ?_) rfl
  obtain ⟨rfl, rfl⟩ := hw
  have hP : va_P (dC, dI) vwCl (VW K ad I G A1 L) H := hP
  refine lv_pop hx hb dL_law_445 rfl ?_
  refine lv_aload_n hx hb dL_law_446 rfl (lv_at hl 1 rfl) ?_
  refine lv_aload_n hx hb dL_law_447 rfl (lv_at hl 3 rfl) ?_
  refine lv_iload_n hx hb dL_law_448 rfl (lv_at hl 0 rfl) ?_
  refine lv_iconst (v := 1) hx hb dL_law_449 (by decide) ?_
  refine lv_iadd hx hb dL_law_450 ?_
  refine va_sld hx hb hX hbl hbA hS (lw_in hN hn 1 (by decide)) dL_law_451 ?_
  refine lv_aload_n hx hb dL_law_452 rfl (lv_at hl 3 rfl) ?_
  refine lv_iload_n hx hb dL_law_453 rfl (lv_at hl 0 rfl) ?_
  refine lv_iconst (v := 2) hx hb dL_law_454 (by decide) ?_
  refine lv_iadd hx hb dL_law_455 ?_
  refine va_sld hx hb hX hbl hbA hS (lw_in hN hn 2 (by decide)) dL_law_456 ?_
  refine vcL (j := 318) (As := [.int (xs (nI (5 * n) + 1).toNatClampNeg), .int (xs (nI (5 * n) + 2).toNatClampNeg)]) (rest := []) ⟨hx, hb, hml, hown, hts⟩ (e_X7_fail l (dC, dI) K ad hap _ _ _ _ _ _  _ _ _ e2) (cwV 2 hts gL_law_X7_fail rfl rfl rfl (by decide +kernel) ⟨Nat.le_of_ble_eq_true rfl, Nat.le_of_ble_eq_true rfl⟩) hK hP hS hge (by decide) (show kd 318 = 7 by decide) (by decide) rfl rfl rfl hl.1 (Nat.le_of_ble_eq_true rfl) (Nat.le_of_ble_eq_true rfl) (Nat.le_of_ble_eq_true rfl) dL_law_457 (fun q7 u H locs hw hP hS => ?_) rfl
  obtain ⟨rfl, rfl⟩ := hw
  have hP : va_P (dC, dI) vwCl (VW K ad J2 G R2 L) H := hP
  refine lv_pop hx hb dL_law_460 rfl ?_
  refine lv_goto (tgt := 1044) hx hb dL_law_461 (by decide) ?_
  exact kk J2 G R2 L H locs hr1 hP hS
set_option maxHeartbeats 4000000 in
set_option maxRecDepth 100000 in
/-- the law: turn -/
theorem law_c8 {p : Program} {l : Launch} {e : Env} {s : State} {m : MethodId} {below : List Frame} {meth : Method} {c : Code} {dC : Nat → ClassId} {dI : Nat → Nat → Nat} {b N : Nat} {xs : Nat → Int32} {K : Nat → ClassId} {ad : Nat → Nat} (C0 : lw_At p s m meth c b N xs) (hN : N ≤ 2560) (hK : va_K (dC, dI) vwCl (tyA K) s) (hap : apart ad (fun _ => True)) (hge : ∀ j, j < NS → s.heap.size ≤ ad j) {n : Nat} (hn : 5 * n + 5 ≤ N) (I : Nat → Nat → Int32) (G : Nat → Nat → Nat) (A : Nat → Nat → Int32) (L : Nat → Nat → Int64) (h : Rel n I G A L I A) (H : Heap) (locs : List Loc) (hP : va_P (dC, dI) vwCl (VW K ad I G A L) H) (hS : va_S (fun q : Nat => s.heap.size ≤ q) s.heap H locs) (ls : Array Slot) (hl : lv_has ls 4 [(3, .int (nI (5 * n))), (2, .ref (ad 318)), (1, .ref (ad 0)), (0, .ref b)]) (kk : ∀ (I : Nat → Nat → Int32) (G : Nat → Nat → Nat) (A : Nat → Nat → Int32) (L : Nat → Nat → Int64) (H : Heap) (locs : List Loc), Rel (n + 1) I G A L I A → va_P (dC, dI) vwCl (VW K ad I G A L) H → va_S (fun q : Nat => s.heap.size ≤ q) s.heap H locs → W p l e room_1 s m #[Value.ref b] below meth c H locs 378 153906 (lw_Z below #[Value.ref b] s) (F0 m 1044 ls [])) : W p l e room_1 s m #[Value.ref b] below meth c H locs 378 153906 (lw_Z below #[Value.ref b] s) (F0 m 464 ls []) := by
  obtain ⟨hx, hb, hr, hml, hown, hts0, hX, hbl, hlocks, hgv⟩ := id C0
  have hts : ∀ w ∈ wsL_law, w.before #[Value.ref b] s = true := fun w h => hts0 w (wsL_law_in w h)
  have hown : s.vm.findClass RL = some m.cls := hown
  have hA : ∀ q : Nat, s.heap.size ≤ q → (fun q : Nat => s.heap.size ≤ q) q := fun _ h => h
  have hbA : ¬ (fun q : Nat => s.heap.size ≤ q) b := Nat.not_le.mpr hbl
  obtain ⟨r, I1, A1, J2, R2, e1, e2, hr1⟩ := g_turn (xs (nI (5 * n) + 1).toNatClampNeg) h 
  refine lv_aload_n hx hb dL_law_464 rfl (lv_at hl 2 rfl) ?_
  refine lv_aload_n hx hb dL_law_465 rfl (lv_at hl 3 rfl) ?_
  refine lv_iload_n hx hb dL_law_466 rfl (lv_at hl 0 rfl) ?_
  refine lv_iconst (v := 1) hx hb dL_law_467 (by decide) ?_
  refine lv_iadd hx hb dL_law_468 ?_
  refine va_sld hx hb hX hbl hbA hS (lw_in hN hn 1 (by decide)) dL_law_469 ?_
  refine vcL (j := 0) (As := [.int (xs (nI (5 * n) + 1).toNatClampNeg)]) (rest := []) ⟨hx, hb, hml, hown, hts⟩ (e_X6_turn l (dC, dI) K ad hap _ _ _ _ _  _ _ _ e1) (cwV 1 hts gL_law_X6_turn rfl rfl rfl (by decide +kernel) ⟨Nat.le_of_ble_eq_true rfl, Nat.le_of_ble_eq_true rfl⟩) hK hP hS hge (by decide) (show kd 0 = 6 by decide) (by decide) rfl rfl rfl hl.1 (Nat.le_of_ble_eq_true rfl) (Nat.le_of_ble_eq_true rfl) (Nat.le_of_ble_eq_true rfl) dL_law_470 (fun q6 u H locs hw hP hS => ?_) rfl
  obtain ⟨rfl, rfl⟩ := hw
  have hP : va_P (dC, dI) vwCl (VW K ad I1 G A1 L) H := hP
  refine lv_pop hx hb dL_law_473 rfl ?_
  refine lv_aload_n hx hb dL_law_474 rfl (lv_at hl 1 rfl) ?_
  refine lv_aload_n hx hb dL_law_475 rfl (lv_at hl 3 rfl) ?_
  refine lv_iload_n hx hb dL_law_476 rfl (lv_at hl 0 rfl) ?_
  refine lv_iconst (v := 1) hx hb dL_law_477 (by decide) ?_
  refine lv_iadd hx hb dL_law_478 ?_
  refine va_sld hx hb hX hbl hbA hS (lw_in hN hn 1 (by decide)) dL_law_479 ?_
  refine vcL (j := 318) (As := [.int (xs (nI (5 * n) + 1).toNatClampNeg)]) (rest := []) ⟨hx, hb, hml, hown, hts⟩ (e_X7_turn l (dC, dI) K ad hap _ _ _ _ _  _ _ _ e2) (cwV 1 hts gL_law_X7_turn rfl rfl rfl (by decide +kernel) ⟨Nat.le_of_ble_eq_true rfl, Nat.le_of_ble_eq_true rfl⟩) hK hP hS hge (by decide) (show kd 318 = 7 by decide) (by decide) rfl rfl rfl hl.1 (Nat.le_of_ble_eq_true rfl) (Nat.le_of_ble_eq_true rfl) (Nat.le_of_ble_eq_true rfl) dL_law_480 (fun q7 u H locs hw hP hS => ?_) rfl
  obtain ⟨rfl, rfl⟩ := hw
  have hP : va_P (dC, dI) vwCl (VW K ad J2 G R2 L) H := hP
  refine lv_pop hx hb dL_law_483 rfl ?_
  refine lv_goto (tgt := 1044) hx hb dL_law_484 (by decide) ?_
  exact kk J2 G R2 L H locs hr1 hP hS
set_option maxHeartbeats 4000000 in
set_option maxRecDepth 100000 in
/-- the law: plain -/
theorem law_c9 {p : Program} {l : Launch} {e : Env} {s : State} {m : MethodId} {below : List Frame} {meth : Method} {c : Code} {dC : Nat → ClassId} {dI : Nat → Nat → Nat} {b N : Nat} {xs : Nat → Int32} {K : Nat → ClassId} {ad : Nat → Nat} (C0 : lw_At p s m meth c b N xs) (hN : N ≤ 2560) (hK : va_K (dC, dI) vwCl (tyA K) s) (hap : apart ad (fun _ => True)) (hge : ∀ j, j < NS → s.heap.size ≤ ad j) {n : Nat} (hn : 5 * n + 5 ≤ N) (I : Nat → Nat → Int32) (G : Nat → Nat → Nat) (A : Nat → Nat → Int32) (L : Nat → Nat → Int64) (h : Rel n I G A L I A) (H : Heap) (locs : List Loc) (hP : va_P (dC, dI) vwCl (VW K ad I G A L) H) (hS : va_S (fun q : Nat => s.heap.size ≤ q) s.heap H locs) (ls : Array Slot) (hl : lv_has ls 4 [(3, .int (nI (5 * n))), (2, .ref (ad 318)), (1, .ref (ad 0)), (0, .ref b)]) (kk : ∀ (I : Nat → Nat → Int32) (G : Nat → Nat → Nat) (A : Nat → Nat → Int32) (L : Nat → Nat → Int64) (H : Heap) (locs : List Loc), Rel (n + 1) I G A L I A → va_P (dC, dI) vwCl (VW K ad I G A L) H → va_S (fun q : Nat => s.heap.size ≤ q) s.heap H locs → W p l e room_1 s m #[Value.ref b] below meth c H locs 378 153906 (lw_Z below #[Value.ref b] s) (F0 m 1044 ls [])) : W p l e room_1 s m #[Value.ref b] below meth c H locs 378 153906 (lw_Z below #[Value.ref b] s) (F0 m 487 ls []) := by
  obtain ⟨hx, hb, hr, hml, hown, hts0, hX, hbl, hlocks, hgv⟩ := id C0
  have hts : ∀ w ∈ wsL_law, w.before #[Value.ref b] s = true := fun w h => hts0 w (wsL_law_in w h)
  have hown : s.vm.findClass RL = some m.cls := hown
  have hA : ∀ q : Nat, s.heap.size ≤ q → (fun q : Nat => s.heap.size ≤ q) q := fun _ h => h
  have hbA : ¬ (fun q : Nat => s.heap.size ≤ q) b := Nat.not_le.mpr hbl
  obtain ⟨r, I1, J2, e1, e2, hr1⟩ := g_plain  h 
  refine lv_aload_n hx hb dL_law_487 rfl (lv_at hl 2 rfl) ?_
  refine vcL (j := 0) (As := []) (rest := []) ⟨hx, hb, hml, hown, hts⟩ (e_X6_plain l (dC, dI) K ad hap  _ _ _ _  _ _ e1) (cwV 0 hts gL_law_X6_plain rfl rfl rfl (by decide +kernel) ⟨Nat.le_of_ble_eq_true rfl, Nat.le_of_ble_eq_true rfl⟩) hK hP hS hge (by decide) (show kd 0 = 6 by decide) (by decide) rfl rfl rfl hl.1 (Nat.le_of_ble_eq_true rfl) (Nat.le_of_ble_eq_true rfl) (Nat.le_of_ble_eq_true rfl) dL_law_488 (fun q6 u H locs hw hP hS => ?_) rfl
  obtain ⟨rfl, rfl⟩ := hw
  have hP : va_P (dC, dI) vwCl (VW K ad I1 G A L) H := hP
  refine lv_pop hx hb dL_law_491 rfl ?_
  refine lv_aload_n hx hb dL_law_492 rfl (lv_at hl 1 rfl) ?_
  refine vcL (j := 318) (As := []) (rest := []) ⟨hx, hb, hml, hown, hts⟩ (e_X7_plain l (dC, dI) K ad hap  _ _ _ _  _ _ e2) (cwV 0 hts gL_law_X7_plain rfl rfl rfl (by decide +kernel) ⟨Nat.le_of_ble_eq_true rfl, Nat.le_of_ble_eq_true rfl⟩) hK hP hS hge (by decide) (show kd 318 = 7 by decide) (by decide) rfl rfl rfl hl.1 (Nat.le_of_ble_eq_true rfl) (Nat.le_of_ble_eq_true rfl) (Nat.le_of_ble_eq_true rfl) dL_law_493 (fun q7 u H locs hw hP hS => ?_) rfl
  obtain ⟨rfl, rfl⟩ := hw
  have hP : va_P (dC, dI) vwCl (VW K ad J2 G A L) H := hP
  refine lv_pop hx hb dL_law_496 rfl ?_
  refine lv_goto (tgt := 1044) hx hb dL_law_497 (by decide) ?_
  exact kk J2 G A L H locs hr1 hP hS
set_option maxHeartbeats 4000000 in
set_option maxRecDepth 100000 in
/-- the law: limit -/
theorem law_c10 {p : Program} {l : Launch} {e : Env} {s : State} {m : MethodId} {below : List Frame} {meth : Method} {c : Code} {dC : Nat → ClassId} {dI : Nat → Nat → Nat} {b N : Nat} {xs : Nat → Int32} {K : Nat → ClassId} {ad : Nat → Nat} (C0 : lw_At p s m meth c b N xs) (hN : N ≤ 2560) (hK : va_K (dC, dI) vwCl (tyA K) s) (hap : apart ad (fun _ => True)) (hge : ∀ j, j < NS → s.heap.size ≤ ad j) {n : Nat} (hn : 5 * n + 5 ≤ N) (I : Nat → Nat → Int32) (G : Nat → Nat → Nat) (A : Nat → Nat → Int32) (L : Nat → Nat → Int64) (h : Rel n I G A L I A) (H : Heap) (locs : List Loc) (hP : va_P (dC, dI) vwCl (VW K ad I G A L) H) (hS : va_S (fun q : Nat => s.heap.size ≤ q) s.heap H locs) (ls : Array Slot) (hl : lv_has ls 4 [(3, .int (nI (5 * n))), (2, .ref (ad 318)), (1, .ref (ad 0)), (0, .ref b)]) (kk : ∀ (I : Nat → Nat → Int32) (G : Nat → Nat → Nat) (A : Nat → Nat → Int32) (L : Nat → Nat → Int64) (H : Heap) (locs : List Loc), Rel (n + 1) I G A L I A → va_P (dC, dI) vwCl (VW K ad I G A L) H → va_S (fun q : Nat => s.heap.size ≤ q) s.heap H locs → W p l e room_1 s m #[Value.ref b] below meth c H locs 378 153906 (lw_Z below #[Value.ref b] s) (F0 m 1044 ls [])) : W p l e room_1 s m #[Value.ref b] below meth c H locs 378 153906 (lw_Z below #[Value.ref b] s) (F0 m 500 ls []) := by
  obtain ⟨hx, hb, hr, hml, hown, hts0, hX, hbl, hlocks, hgv⟩ := id C0
  have hts : ∀ w ∈ wsL_law, w.before #[Value.ref b] s = true := fun w h => hts0 w (wsL_law_in w h)
  have hown : s.vm.findClass RL = some m.cls := hown
  have hA : ∀ q : Nat, s.heap.size ≤ q → (fun q : Nat => s.heap.size ≤ q) q := fun _ h => h
  have hbA : ¬ (fun q : Nat => s.heap.size ≤ q) b := Nat.not_le.mpr hbl
  obtain ⟨r, I1, J2, e1, e2, hr1⟩ := g_limit (xs (nI (5 * n) + 1).toNatClampNeg) h 
  refine lv_aload_n hx hb dL_law_500 rfl (lv_at hl 2 rfl) ?_
  refine lv_aload_n hx hb dL_law_501 rfl (lv_at hl 3 rfl) ?_
  refine lv_iload_n hx hb dL_law_502 rfl (lv_at hl 0 rfl) ?_
  refine lv_iconst (v := 1) hx hb dL_law_503 (by decide) ?_
  refine lv_iadd hx hb dL_law_504 ?_
  refine va_sld hx hb hX hbl hbA hS (lw_in hN hn 1 (by decide)) dL_law_505 ?_
  refine vcL (j := 0) (As := [.int (xs (nI (5 * n) + 1).toNatClampNeg)]) (rest := []) ⟨hx, hb, hml, hown, hts⟩ (e_X6_limit l (dC, dI) K ad hap _ _ _ _ _  _ _ e1) (cwV 1 hts gL_law_X6_limit rfl rfl rfl (by decide +kernel) ⟨Nat.le_of_ble_eq_true rfl, Nat.le_of_ble_eq_true rfl⟩) hK hP hS hge (by decide) (show kd 0 = 6 by decide) (by decide) rfl rfl rfl hl.1 (Nat.le_of_ble_eq_true rfl) (Nat.le_of_ble_eq_true rfl) (Nat.le_of_ble_eq_true rfl) dL_law_506 (fun q6 u H locs hw hP hS => ?_) rfl
  obtain ⟨rfl, rfl⟩ := hw
  have hP : va_P (dC, dI) vwCl (VW K ad I1 G A L) H := hP
  refine lv_pop hx hb dL_law_509 rfl ?_
  refine lv_aload_n hx hb dL_law_510 rfl (lv_at hl 1 rfl) ?_
  refine lv_aload_n hx hb dL_law_511 rfl (lv_at hl 3 rfl) ?_
  refine lv_iload_n hx hb dL_law_512 rfl (lv_at hl 0 rfl) ?_
  refine lv_iconst (v := 1) hx hb dL_law_513 (by decide) ?_
  refine lv_iadd hx hb dL_law_514 ?_
  refine va_sld hx hb hX hbl hbA hS (lw_in hN hn 1 (by decide)) dL_law_515 ?_
  refine vcL (j := 318) (As := [.int (xs (nI (5 * n) + 1).toNatClampNeg)]) (rest := []) ⟨hx, hb, hml, hown, hts⟩ (e_X7_limit l (dC, dI) K ad hap _ _ _ _ _  _ _ e2) (cwV 1 hts gL_law_X7_limit rfl rfl rfl (by decide +kernel) ⟨Nat.le_of_ble_eq_true rfl, Nat.le_of_ble_eq_true rfl⟩) hK hP hS hge (by decide) (show kd 318 = 7 by decide) (by decide) rfl rfl rfl hl.1 (Nat.le_of_ble_eq_true rfl) (Nat.le_of_ble_eq_true rfl) (Nat.le_of_ble_eq_true rfl) dL_law_516 (fun q7 u H locs hw hP hS => ?_) rfl
  obtain ⟨rfl, rfl⟩ := hw
  have hP : va_P (dC, dI) vwCl (VW K ad J2 G A L) H := hP
  refine lv_pop hx hb dL_law_519 rfl ?_
  refine lv_goto (tgt := 1044) hx hb dL_law_520 (by decide) ?_
  exact kk J2 G A L H locs hr1 hP hS
set_option maxHeartbeats 4000000 in
set_option maxRecDepth 100000 in
/-- the law: solve -/
theorem law_c11 {p : Program} {l : Launch} {e : Env} {s : State} {m : MethodId} {below : List Frame} {meth : Method} {c : Code} {dC : Nat → ClassId} {dI : Nat → Nat → Nat} {b N : Nat} {xs : Nat → Int32} {K : Nat → ClassId} {ad : Nat → Nat} (C0 : lw_At p s m meth c b N xs) (hN : N ≤ 2560) (hK : va_K (dC, dI) vwCl (tyA K) s) (hap : apart ad (fun _ => True)) (hge : ∀ j, j < NS → s.heap.size ≤ ad j) {n : Nat} (hn : 5 * n + 5 ≤ N) (I : Nat → Nat → Int32) (G : Nat → Nat → Nat) (A : Nat → Nat → Int32) (L : Nat → Nat → Int64) (h : Rel n I G A L I A) (H : Heap) (locs : List Loc) (hP : va_P (dC, dI) vwCl (VW K ad I G A L) H) (hS : va_S (fun q : Nat => s.heap.size ≤ q) s.heap H locs) (ls : Array Slot) (hl : lv_has ls 4 [(3, .int (nI (5 * n))), (2, .ref (ad 318)), (1, .ref (ad 0)), (0, .ref b)]) (kk : ∀ (I : Nat → Nat → Int32) (G : Nat → Nat → Nat) (A : Nat → Nat → Int32) (L : Nat → Nat → Int64) (H : Heap) (locs : List Loc), Rel (n + 1) I G A L I A → va_P (dC, dI) vwCl (VW K ad I G A L) H → va_S (fun q : Nat => s.heap.size ≤ q) s.heap H locs → W p l e room_1 s m #[Value.ref b] below meth c H locs 378 153906 (lw_Z below #[Value.ref b] s) (F0 m 1044 ls [])) : W p l e room_1 s m #[Value.ref b] below meth c H locs 378 153906 (lw_Z below #[Value.ref b] s) (F0 m 523 ls []) := by
  obtain ⟨hx, hb, hr, hml, hown, hts0, hX, hbl, hlocks, hgv⟩ := id C0
  have hts : ∀ w ∈ wsL_law, w.before #[Value.ref b] s = true := fun w h => hts0 w (wsL_law_in w h)
  have hown : s.vm.findClass RL = some m.cls := hown
  have hA : ∀ q : Nat, s.heap.size ≤ q → (fun q : Nat => s.heap.size ≤ q) q := fun _ h => h
  have hbA : ¬ (fun q : Nat => s.heap.size ≤ q) b := Nat.not_le.mpr hbl
  obtain ⟨r, I1, G1, A1, L1, J2, R2, e1, e2, hr1⟩ := g_solve (xs (nI (5 * n) + 1).toNatClampNeg) (xs (nI (5 * n) + 2).toNatClampNeg) h (by omega)
  refine lv_aload_n hx hb dL_law_523 rfl (lv_at hl 2 rfl) ?_
  refine lv_aload_n hx hb dL_law_524 rfl (lv_at hl 3 rfl) ?_
  refine lv_iload_n hx hb dL_law_525 rfl (lv_at hl 0 rfl) ?_
  refine lv_iconst (v := 1) hx hb dL_law_526 (by decide) ?_
  refine lv_iadd hx hb dL_law_527 ?_
  refine va_sld hx hb hX hbl hbA hS (lw_in hN hn 1 (by decide)) dL_law_528 ?_
  refine lv_aload_n hx hb dL_law_529 rfl (lv_at hl 3 rfl) ?_
  refine lv_iload_n hx hb dL_law_530 rfl (lv_at hl 0 rfl) ?_
  refine lv_iconst (v := 2) hx hb dL_law_531 (by decide) ?_
  refine lv_iadd hx hb dL_law_532 ?_
  refine va_sld hx hb hX hbl hbA hS (lw_in hN hn 2 (by decide)) dL_law_533 ?_
  refine vcL (j := 0) (As := [.int (xs (nI (5 * n) + 1).toNatClampNeg), .int (xs (nI (5 * n) + 2).toNatClampNeg)]) (rest := []) ⟨hx, hb, hml, hown, hts⟩ (e_X6_solve l (dC, dI) K ad hap _ _ _ _ _ _  _ _ _ _ _ e1) (cwV 2 hts gL_law_X6_solve rfl rfl rfl (by decide +kernel) ⟨Nat.le_of_ble_eq_true rfl, Nat.le_of_ble_eq_true rfl⟩) hK hP hS hge (by decide) (show kd 0 = 6 by decide) (by decide) rfl rfl rfl hl.1 (Nat.le_of_ble_eq_true rfl) (Nat.le_of_ble_eq_true rfl) (Nat.le_of_ble_eq_true rfl) dL_law_534 (fun q6 u H locs hw hP hS => ?_) rfl
  obtain ⟨rfl, rfl⟩ := hw
  have hP : va_P (dC, dI) vwCl (VW K ad I1 G1 A1 L1) H := hP
  refine lv_pop hx hb dL_law_537 rfl ?_
  refine lv_aload_n hx hb dL_law_538 rfl (lv_at hl 1 rfl) ?_
  refine lv_aload_n hx hb dL_law_539 rfl (lv_at hl 3 rfl) ?_
  refine lv_iload_n hx hb dL_law_540 rfl (lv_at hl 0 rfl) ?_
  refine lv_iconst (v := 1) hx hb dL_law_541 (by decide) ?_
  refine lv_iadd hx hb dL_law_542 ?_
  refine va_sld hx hb hX hbl hbA hS (lw_in hN hn 1 (by decide)) dL_law_543 ?_
  refine lv_aload_n hx hb dL_law_544 rfl (lv_at hl 3 rfl) ?_
  refine lv_iload_n hx hb dL_law_545 rfl (lv_at hl 0 rfl) ?_
  refine lv_iconst (v := 2) hx hb dL_law_546 (by decide) ?_
  refine lv_iadd hx hb dL_law_547 ?_
  refine va_sld hx hb hX hbl hbA hS (lw_in hN hn 2 (by decide)) dL_law_548 ?_
  refine vcL (j := 318) (As := [.int (xs (nI (5 * n) + 1).toNatClampNeg), .int (xs (nI (5 * n) + 2).toNatClampNeg)]) (rest := []) ⟨hx, hb, hml, hown, hts⟩ (e_X7_solve l (dC, dI) K ad hap _ _ _ _ _ _  _ _ _ e2) (cwV 2 hts gL_law_X7_solve rfl rfl rfl (by decide +kernel) ⟨Nat.le_of_ble_eq_true rfl, Nat.le_of_ble_eq_true rfl⟩) hK hP hS hge (by decide) (show kd 318 = 7 by decide) (by decide) rfl rfl rfl hl.1 (Nat.le_of_ble_eq_true rfl) (Nat.le_of_ble_eq_true rfl) (Nat.le_of_ble_eq_true rfl) dL_law_549 (fun q7 u H locs hw hP hS => ?_) rfl
  obtain ⟨rfl, rfl⟩ := hw
  have hP : va_P (dC, dI) vwCl (VW K ad J2 G1 R2 L1) H := hP
  refine lv_pop hx hb dL_law_552 rfl ?_
  refine lv_goto (tgt := 1044) hx hb dL_law_553 (by decide) ?_
  exact kk J2 G1 R2 L1 H locs hr1 hP hS
set_option maxHeartbeats 4000000 in
set_option maxRecDepth 100000 in
/-- the law: giveUp -/
theorem law_c12 {p : Program} {l : Launch} {e : Env} {s : State} {m : MethodId} {below : List Frame} {meth : Method} {c : Code} {dC : Nat → ClassId} {dI : Nat → Nat → Nat} {b N : Nat} {xs : Nat → Int32} {K : Nat → ClassId} {ad : Nat → Nat} (C0 : lw_At p s m meth c b N xs) (hN : N ≤ 2560) (hK : va_K (dC, dI) vwCl (tyA K) s) (hap : apart ad (fun _ => True)) (hge : ∀ j, j < NS → s.heap.size ≤ ad j) {n : Nat} (hn : 5 * n + 5 ≤ N) (I : Nat → Nat → Int32) (G : Nat → Nat → Nat) (A : Nat → Nat → Int32) (L : Nat → Nat → Int64) (h : Rel n I G A L I A) (H : Heap) (locs : List Loc) (hP : va_P (dC, dI) vwCl (VW K ad I G A L) H) (hS : va_S (fun q : Nat => s.heap.size ≤ q) s.heap H locs) (ls : Array Slot) (hl : lv_has ls 4 [(3, .int (nI (5 * n))), (2, .ref (ad 318)), (1, .ref (ad 0)), (0, .ref b)]) (kk : ∀ (I : Nat → Nat → Int32) (G : Nat → Nat → Nat) (A : Nat → Nat → Int32) (L : Nat → Nat → Int64) (H : Heap) (locs : List Loc), Rel (n + 1) I G A L I A → va_P (dC, dI) vwCl (VW K ad I G A L) H → va_S (fun q : Nat => s.heap.size ≤ q) s.heap H locs → W p l e room_1 s m #[Value.ref b] below meth c H locs 378 153906 (lw_Z below #[Value.ref b] s) (F0 m 1044 ls [])) : W p l e room_1 s m #[Value.ref b] below meth c H locs 378 153906 (lw_Z below #[Value.ref b] s) (F0 m 556 ls []) := by
  obtain ⟨hx, hb, hr, hml, hown, hts0, hX, hbl, hlocks, hgv⟩ := id C0
  have hts : ∀ w ∈ wsL_law, w.before #[Value.ref b] s = true := fun w h => hts0 w (wsL_law_in w h)
  have hown : s.vm.findClass RL = some m.cls := hown
  have hA : ∀ q : Nat, s.heap.size ≤ q → (fun q : Nat => s.heap.size ≤ q) q := fun _ h => h
  have hbA : ¬ (fun q : Nat => s.heap.size ≤ q) b := Nat.not_le.mpr hbl
  obtain ⟨r, I1, J2, e1, e2, hr1⟩ := g_giveUp  h 
  refine lv_aload_n hx hb dL_law_556 rfl (lv_at hl 2 rfl) ?_
  refine vcL (j := 0) (As := []) (rest := []) ⟨hx, hb, hml, hown, hts⟩ (e_X6_giveUp l (dC, dI) K ad hap  _ _ _ _  _ _ e1) (cwV 0 hts gL_law_X6_giveUp rfl rfl rfl (by decide +kernel) ⟨Nat.le_of_ble_eq_true rfl, Nat.le_of_ble_eq_true rfl⟩) hK hP hS hge (by decide) (show kd 0 = 6 by decide) (by decide) rfl rfl rfl hl.1 (Nat.le_of_ble_eq_true rfl) (Nat.le_of_ble_eq_true rfl) (Nat.le_of_ble_eq_true rfl) dL_law_557 (fun q6 u H locs hw hP hS => ?_) rfl
  obtain ⟨rfl, rfl⟩ := hw
  have hP : va_P (dC, dI) vwCl (VW K ad I1 G A L) H := hP
  refine lv_pop hx hb dL_law_560 rfl ?_
  refine lv_aload_n hx hb dL_law_561 rfl (lv_at hl 1 rfl) ?_
  refine vcL (j := 318) (As := []) (rest := []) ⟨hx, hb, hml, hown, hts⟩ (e_X7_giveUp l (dC, dI) K ad hap  _ _ _ _  _ _ e2) (cwV 0 hts gL_law_X7_giveUp rfl rfl rfl (by decide +kernel) ⟨Nat.le_of_ble_eq_true rfl, Nat.le_of_ble_eq_true rfl⟩) hK hP hS hge (by decide) (show kd 318 = 7 by decide) (by decide) rfl rfl rfl hl.1 (Nat.le_of_ble_eq_true rfl) (Nat.le_of_ble_eq_true rfl) (Nat.le_of_ble_eq_true rfl) dL_law_562 (fun q7 u H locs hw hP hS => ?_) rfl
  obtain ⟨rfl, rfl⟩ := hw
  have hP : va_P (dC, dI) vwCl (VW K ad J2 G A L) H := hP
  refine lv_pop hx hb dL_law_565 rfl ?_
  refine lv_goto (tgt := 1044) hx hb dL_law_566 (by decide) ?_
  exact kk J2 G A L H locs hr1 hP hS
set_option maxHeartbeats 4000000 in
set_option maxRecDepth 100000 in
/-- the law: told -/
theorem law_c13 {p : Program} {l : Launch} {e : Env} {s : State} {m : MethodId} {below : List Frame} {meth : Method} {c : Code} {dC : Nat → ClassId} {dI : Nat → Nat → Nat} {b N : Nat} {xs : Nat → Int32} {K : Nat → ClassId} {ad : Nat → Nat} (C0 : lw_At p s m meth c b N xs) (hN : N ≤ 2560) (hK : va_K (dC, dI) vwCl (tyA K) s) (hap : apart ad (fun _ => True)) (hge : ∀ j, j < NS → s.heap.size ≤ ad j) {n : Nat} (hn : 5 * n + 5 ≤ N) (I : Nat → Nat → Int32) (G : Nat → Nat → Nat) (A : Nat → Nat → Int32) (L : Nat → Nat → Int64) (h : Rel n I G A L I A) (H : Heap) (locs : List Loc) (hP : va_P (dC, dI) vwCl (VW K ad I G A L) H) (hS : va_S (fun q : Nat => s.heap.size ≤ q) s.heap H locs) (ls : Array Slot) (hl : lv_has ls 4 [(3, .int (nI (5 * n))), (2, .ref (ad 318)), (1, .ref (ad 0)), (0, .ref b)]) (kk : ∀ (I : Nat → Nat → Int32) (G : Nat → Nat → Nat) (A : Nat → Nat → Int32) (L : Nat → Nat → Int64) (H : Heap) (locs : List Loc), Rel (n + 1) I G A L I A → va_P (dC, dI) vwCl (VW K ad I G A L) H → va_S (fun q : Nat => s.heap.size ≤ q) s.heap H locs → W p l e room_1 s m #[Value.ref b] below meth c H locs 378 153906 (lw_Z below #[Value.ref b] s) (F0 m 1044 ls [])) : W p l e room_1 s m #[Value.ref b] below meth c H locs 378 153906 (lw_Z below #[Value.ref b] s) (F0 m 569 ls []) := by
  obtain ⟨hx, hb, hr, hml, hown, hts0, hX, hbl, hlocks, hgv⟩ := id C0
  have hts : ∀ w ∈ wsL_law, w.before #[Value.ref b] s = true := fun w h => hts0 w (wsL_law_in w h)
  have hown : s.vm.findClass RL = some m.cls := hown
  have hA : ∀ q : Nat, s.heap.size ≤ q → (fun q : Nat => s.heap.size ≤ q) q := fun _ h => h
  have hbA : ¬ (fun q : Nat => s.heap.size ≤ q) b := Nat.not_le.mpr hbl
  obtain ⟨r, J2, e1, e2, hr1⟩ := g_told (xs (nI (5 * n) + 1).toNatClampNeg) (xs (nI (5 * n) + 2).toNatClampNeg) h 
  refine lv_aload_n hx hb dL_law_569 rfl (lv_at hl 2 rfl) ?_
  refine lv_aload_n hx hb dL_law_570 rfl (lv_at hl 3 rfl) ?_
  refine lv_iload_n hx hb dL_law_571 rfl (lv_at hl 0 rfl) ?_
  refine lv_iconst (v := 1) hx hb dL_law_572 (by decide) ?_
  refine lv_iadd hx hb dL_law_573 ?_
  refine va_sld hx hb hX hbl hbA hS (lw_in hN hn 1 (by decide)) dL_law_574 ?_
  refine lv_aload_n hx hb dL_law_575 rfl (lv_at hl 3 rfl) ?_
  refine lv_iload_n hx hb dL_law_576 rfl (lv_at hl 0 rfl) ?_
  refine lv_iconst (v := 2) hx hb dL_law_577 (by decide) ?_
  refine lv_iadd hx hb dL_law_578 ?_
  refine va_sld hx hb hX hbl hbA hS (lw_in hN hn 2 (by decide)) dL_law_579 ?_
  refine vcL (j := 0) (As := [.int (xs (nI (5 * n) + 1).toNatClampNeg), .int (xs (nI (5 * n) + 2).toNatClampNeg)]) (rest := []) ⟨hx, hb, hml, hown, hts⟩ (e_X6_told l (dC, dI) K ad hap _ _ _ _ _ _  _  e1) (cwV 2 hts gL_law_X6_told rfl rfl rfl (by decide +kernel) ⟨Nat.le_of_ble_eq_true rfl, Nat.le_of_ble_eq_true rfl⟩) hK hP hS hge (by decide) (show kd 0 = 6 by decide) (by decide) rfl rfl rfl hl.1 (Nat.le_of_ble_eq_true rfl) (Nat.le_of_ble_eq_true rfl) (Nat.le_of_ble_eq_true rfl) dL_law_580 (fun q6 u H locs hw hP hS => ?_) rfl
  obtain ⟨rfl, rfl⟩ := hw
  have hP : va_P (dC, dI) vwCl (VW K ad I G A L) H := hP
  refine lv_pop hx hb dL_law_583 rfl ?_
  refine lv_aload_n hx hb dL_law_584 rfl (lv_at hl 1 rfl) ?_
  refine lv_aload_n hx hb dL_law_585 rfl (lv_at hl 3 rfl) ?_
  refine lv_iload_n hx hb dL_law_586 rfl (lv_at hl 0 rfl) ?_
  refine lv_iconst (v := 1) hx hb dL_law_587 (by decide) ?_
  refine lv_iadd hx hb dL_law_588 ?_
  refine va_sld hx hb hX hbl hbA hS (lw_in hN hn 1 (by decide)) dL_law_589 ?_
  refine lv_aload_n hx hb dL_law_590 rfl (lv_at hl 3 rfl) ?_
  refine lv_iload_n hx hb dL_law_591 rfl (lv_at hl 0 rfl) ?_
  refine lv_iconst (v := 2) hx hb dL_law_592 (by decide) ?_
  refine lv_iadd hx hb dL_law_593 ?_
  refine va_sld hx hb hX hbl hbA hS (lw_in hN hn 2 (by decide)) dL_law_594 ?_
  refine vcL (j := 318) (As := [.int (xs (nI (5 * n) + 1).toNatClampNeg), .int (xs (nI (5 * n) + 2).toNatClampNeg)]) (rest := []) ⟨hx, hb, hml, hown, hts⟩ (e_X7_told l (dC, dI) K ad hap _ _ _ _ _ _  _ _ e2) (cwV 2 hts gL_law_X7_told rfl rfl rfl (by decide +kernel) ⟨Nat.le_of_ble_eq_true rfl, Nat.le_of_ble_eq_true rfl⟩) hK hP hS hge (by decide) (show kd 318 = 7 by decide) (by decide) rfl rfl rfl hl.1 (Nat.le_of_ble_eq_true rfl) (Nat.le_of_ble_eq_true rfl) (Nat.le_of_ble_eq_true rfl) dL_law_595 (fun q7 u H locs hw hP hS => ?_) rfl
  obtain ⟨rfl, rfl⟩ := hw
  have hP : va_P (dC, dI) vwCl (VW K ad J2 G A L) H := hP
  refine lv_pop hx hb dL_law_598 rfl ?_
  refine lv_goto (tgt := 1044) hx hb dL_law_599 (by decide) ?_
  exact kk J2 G A L H locs hr1 hP hS
