/-! THE TIE: a node's place, by its bound and its digits -/
theorem l_and {x : Int64} {k : Nat} (hk : k < 63) : (x &&& Int64.ofNat (2 ^ k - 1)).toInt = x.toInt % (2 ^ k : Nat) := by
  have hp : 2 ^ k < 2 ^ 63 := Nat.pow_lt_pow_right (by decide) hk
  have h1 : (x &&& Int64.ofNat (2 ^ k - 1)).toBitVec.toNat = x.toBitVec.toNat % 2 ^ k := by
    rw [Int64.toBitVec_and, BitVec.toNat_and]
    show x.toBitVec.toNat &&& (2 ^ k - 1) % 2 ^ 64 = _
    rw [Nat.mod_eq_of_lt (by omega), Nat.and_two_pow_sub_one_eq_mod]
  have hl : x.toBitVec.toNat % 2 ^ k < 2 ^ k := Nat.mod_lt _ (Nat.pos_of_ne_zero (by simp))
  have e : ∀ b : BitVec 64, b.toInt = if 2 * b.toNat < 2 ^ 64 then (b.toNat : Int) else (b.toNat : Int) - (2 ^ 64 : Nat) := fun b => BitVec.toInt_eq_toNat_cond b
  show (x &&& Int64.ofNat (2 ^ k - 1)).toBitVec.toInt = x.toBitVec.toInt % (2 ^ k : Nat)
  rw [e, e x.toBitVec, h1, if_pos (by omega)]
  have hd : ((2 ^ 64 : Nat) : Int) % (2 ^ k : Nat) = 0 := by
    have : (2 ^ 64 : Nat) = 2 ^ k * 2 ^ (64 - k) := by rw [← Nat.pow_add]; congr 1; omega
    rw [this]
    push_cast
    exact Int.mul_emod_right _ _
  split
  · first | exact Int.natCast_emod _ _ | exact Int.ofNat_emod _ _ | (push_cast; rfl)
  · rw [Int.sub_emod, hd, Int.sub_zero, Int.emod_emod]
    first | exact Int.natCast_emod _ _ | exact Int.ofNat_emod _ _ | (push_cast; rfl)
theorem l_or {x y : Int64} (h : x &&& y = 0) : x ||| y = x + y := by
  apply Int64.toBitVec_inj.1
  rw [Int64.toBitVec_or, Int64.toBitVec_add]
  have h := congrArg Int64.toBitVec h
  rw [Int64.toBitVec_and] at h
  exact (BitVec.add_eq_or_of_and_eq_zero _ _ h).symm
theorem l_shl {x : Int64} {s : Nat} (hs : s < 64) : x <<< lN s = x * Int64.ofNat (2 ^ s) := by
  apply Int64.toBitVec_inj.1
  rw [Int64.toBitVec_shiftLeft, Int64.toBitVec_mul]
  have e : ((lN s).toBitVec.smod 64).toNat = s := (by decide +kernel : ∀ s, s < 64 → ((lN s).toBitVec.smod 64).toNat = s) s hs
  show x.toBitVec <<< ((lN s).toBitVec.smod 64).toNat = _
  rw [e, BitVec.shiftLeft_eq_mul_twoPow]
  congr 1
  apply BitVec.eq_of_toNat_eq
  rw [BitVec.toNat_twoPow]
  rfl
theorem l_shr {x : Int64} {s : Nat} (hs : s < 64) : (x >>> lN s).toInt = x.toInt / (2 ^ s : Nat) := by
  show (x >>> lN s).toBitVec.toInt = _
  rw [Int64.toBitVec_shiftRight]
  have e : ((lN s).toBitVec.smod 64).toNat = s := (by decide +kernel : ∀ s, s < 64 → ((lN s).toBitVec.smod 64).toNat = s) s hs
  show (x.toBitVec.sshiftRight ((lN s).toBitVec.smod 64).toNat).toInt = _
  rw [e, BitVec.toInt_sshiftRight, Int.shiftRight_eq_div_pow]
  rfl
theorem b_rng (b : Int32) : -2147483648 ≤ b.toInt ∧ b.toInt < 2147483648 := ⟨Int32.le_toInt b, Int32.toInt_lt b⟩
theorem plc_int (b : Int32) {r : Nat} (hr : r < 262144) : (plc b (lN r)).toInt = b.toInt * 262144 + r := by
  have hb := b_rng b
  unfold plc
  rw [show ((18 : Int32).toInt64 &&& 63) = lN 18 by decide, l_shl (by decide)]
  have e1 : (b.toInt64 * Int64.ofNat (2 ^ 18)).toInt = b.toInt * 262144 := by
    rw [Int64.toInt_mul, Int32.toInt_toInt64, show (Int64.ofNat (2 ^ 18)).toInt = 262144 by decide]
    apply Int.bmod_eq_of_le <;> omega
  have e2 : (lN r).toInt = r := lN_toInt (by omega)
  have hz : b.toInt64 * Int64.ofNat (2 ^ 18) &&& lN r = 0 := by
    rw [← l_shl (by decide)]
    apply Int64.toBitVec_inj.1
    rw [Int64.toBitVec_and, Int64.toBitVec_shiftLeft]
    apply BitVec.eq_of_getLsbD_eq
    intro i hi
    rw [BitVec.getLsbD_and]
    show ((b.toInt64.toBitVec <<< ((lN 18).toBitVec.smod 64).toNat).getLsbD i && (BitVec.ofNat 64 r).getLsbD i) = (0 : BitVec 64).getLsbD i
    rw [show ((lN 18).toBitVec.smod 64).toNat = 18 by decide, BitVec.getLsbD_shiftLeft, BitVec.getLsbD_ofNat]
    by_cases h18 : i < 18
    · simp [h18]
    · have : r.testBit i = false := Nat.testBit_lt_two_pow (Nat.lt_of_lt_of_le (show r < 2 ^ 18 from hr) (Nat.pow_le_pow_right (by decide) (by omega)))
      simp [this]
  rw [l_or hz, Int64.toInt_add, e1, e2]
  apply Int.bmod_eq_of_le <;> omega
theorem plc_lt (a b : Int32) {r q : Nat} (hr : r < 262144) (hq : q < 262144) : plc a (lN r) < plc b (lN q) ↔ (a < b ∨ (a = b ∧ r < q)) := by
  rw [Int64.lt_iff_toInt_lt, plc_int a hr, plc_int b hq, Int32.lt_iff_toInt_lt, ← Int32.toInt_inj]
  omega
theorem bdo_plc (b : Int32) {r : Nat} (hr : r < 262144) : bdo (plc b (lN r)) = b := by
  have hb := b_rng b
  unfold bdo
  apply Int32.toInt_inj.1
  rw [show ((18 : Int32).toInt64 &&& 63) = lN 18 by decide, Int64.toInt_toInt32, l_shr (by decide), plc_int b hr]
  rw [show (b.toInt * 262144 + (r : Int)) / ((2 ^ 18 : Nat) : Int) = b.toInt by omega]
  apply Int.bmod_eq_of_le <;> omega
theorem msk_plc (b : Int32) {r : Nat} (hr : r < 262144) : plc b (lN r) &&& 262143 = lN r := by
  apply Int64.toInt_inj.1
  rw [show (262143 : Int64) = Int64.ofNat (2 ^ 18 - 1) by decide, l_and (by decide), plc_int b hr, lN_toInt (by omega)]
  omega
/-- the digits of a row of d values -/
def dg (w : Nat → Nat) (d i : Nat) : Nat := if i < d then w i + 1 else 0
def e8 (w : Nat → Nat) (d : Nat) : Nat := dg w d 0 * 32768 + dg w d 1 * 4096 + dg w d 2 * 512 + dg w d 3 * 64 + dg w d 4 * 8 + dg w d 5
def e7 (w : Nat → Nat) (d : Nat) : Nat := dg w d 0 * 16807 + dg w d 1 * 2401 + dg w d 2 * 343 + dg w d 3 * 49 + dg w d 4 * 7 + dg w d 5
theorem dg_6 {w : Nat → Nat} {d : Nat} (h : ∀ i, i < d → w i < 6) (i : Nat) : dg w d i ≤ 6 := by
  unfold dg
  split
  · have := h i (by assumption); omega
  · omega
theorem e8_lt {w : Nat → Nat} {d : Nat} (h : ∀ i, i < d → w i < 6) : e8 w d < 262144 := by
  have h0 := dg_6 h 0; have h1 := dg_6 h 1; have h2 := dg_6 h 2; have h3 := dg_6 h 3; have h4 := dg_6 h 4; have h5 := dg_6 h 5
  unfold e8; omega
theorem e7_lt {w : Nat → Nat} {d : Nat} (h : ∀ i, i < d → w i < 6) : e7 w d < 117649 := by
  have h0 := dg_6 h 0; have h1 := dg_6 h 1; have h2 := dg_6 h 2; have h3 := dg_6 h 3; have h4 := dg_6 h 4; have h5 := dg_6 h 5
  unfold e7; omega
theorem lex1 {x y x' y' a b : Nat} (h1 : x < y ↔ x' < y') (h2 : x = y ↔ x' = y') (ha : a ≤ 6) (hb : b ≤ 6) : (x * 8 + a < y * 8 + b ↔ x' * 7 + a < y' * 7 + b) ∧ (x * 8 + a = y * 8 + b ↔ x' * 7 + a = y' * 7 + b) := by
  constructor <;> (rcases Nat.lt_trichotomy x y with q | q | q <;> rcases Nat.lt_trichotomy x' y' with q' | q' | q' <;> constructor <;> intro h <;> omega)
theorem e87 {w u : Nat → Nat} {d k : Nat} (h : ∀ i, i < d → w i < 6) (g : ∀ i, i < k → u i < 6) : (e8 w d < e8 u k ↔ e7 w d < e7 u k) ∧ (e8 w d = e8 u k ↔ e7 w d = e7 u k) := by
  have h0 := dg_6 h 0; have h1 := dg_6 h 1; have h2 := dg_6 h 2; have h3 := dg_6 h 3; have h4 := dg_6 h 4; have h5 := dg_6 h 5
  have g0 := dg_6 g 0; have g1 := dg_6 g 1; have g2 := dg_6 g 2; have g3 := dg_6 g 3; have g4 := dg_6 g 4; have g5 := dg_6 g 5
  have l1 := lex1 (x := dg w d 0) (y := dg u k 0) (Iff.rfl) (Iff.rfl) h1 g1
  have l2 := lex1 l1.1 l1.2 h2 g2
  have l3 := lex1 l2.1 l2.2 h3 g3
  have l4 := lex1 l3.1 l3.2 h4 g4
  have l5 := lex1 l4.1 l4.2 h5 g5
  have e1 : e8 w d = ((((dg w d 0 * 8 + dg w d 1) * 8 + dg w d 2) * 8 + dg w d 3) * 8 + dg w d 4) * 8 + dg w d 5 := by unfold e8; omega
  have e2 : e8 u k = ((((dg u k 0 * 8 + dg u k 1) * 8 + dg u k 2) * 8 + dg u k 3) * 8 + dg u k 4) * 8 + dg u k 5 := by unfold e8; omega
  have e3 : e7 w d = ((((dg w d 0 * 7 + dg w d 1) * 7 + dg w d 2) * 7 + dg w d 3) * 7 + dg w d 4) * 7 + dg w d 5 := by unfold e7; omega
  have e4 : e7 u k = ((((dg u k 0 * 7 + dg u k 1) * 7 + dg u k 2) * 7 + dg u k 3) * 7 + dg u k 4) * 7 + dg u k 5 := by unfold e7; omega
  rw [e1, e2, e3, e4]
  exact l5
theorem sh_s : ∀ i, i < 6 → ((sh (nI i)).toInt64 &&& 63) = lN (3 * (5 - i)) := by decide
theorem vlo_e8 (b : Int32) {w : Nat → Nat} {d i : Nat} (h : ∀ i, i < d → w i < 6) (hi : i < d) (h6 : i < 6) : vlo (plc b (lN (e8 w d))) (nI i) = nI (w i) := by
  have h0 := dg_6 h 0; have h1 := dg_6 h 1; have h2 := dg_6 h 2; have h3 := dg_6 h 3; have h4 := dg_6 h 4; have h5 := dg_6 h 5
  have hl := e8_lt h
  have hp := plc_int b hl
  have hd : dg w d i = w i + 1 := if_pos hi
  have hw := h i hi
  have e8' : e8 w d = dg w d 0 * 32768 + dg w d 1 * 4096 + dg w d 2 * 512 + dg w d 3 * 64 + dg w d 4 * 8 + dg w d 5 := rfl
  have key : ((plc b (lN (e8 w d)) >>> lN (3 * (5 - i))) &&& 7).toInt = ((w i + 1 : Nat) : Int) := by
    rw [show (7 : Int64) = Int64.ofNat (2 ^ 3 - 1) by decide, l_and (by decide), l_shr (by omega), hp]
    obtain rfl | rfl | rfl | rfl | rfl | rfl : i = 0 ∨ i = 1 ∨ i = 2 ∨ i = 3 ∨ i = 4 ∨ i = 5 := by omega
    all_goals (simp only [Nat.reduceSub, Nat.reduceMul, Nat.reducePow]; omega)
  unfold vlo
  rw [sh_s i h6]
  have e2 : ((plc b (lN (e8 w d)) >>> lN (3 * (5 - i))) &&& 7) = lN (w i + 1) := Int64.toInt_inj.1 (by rw [key, lN_toInt (by omega)])
  rw [e2, lN_i, nI_pred]
theorem e8_s {w : Nat → Nat} {d y : Nat} (h : ∀ i, i < d → w i < 6) (hd : d < 6) (hy : y < 6) : lN (e8 w d) ||| ((nI y + 1).toInt64 <<< ((sh (nI d)).toInt64 &&& 63)) = lN (e8 (fun i => if i = d then y else w i) (d + 1)) := by
  have h0 := dg_6 h 0; have h1 := dg_6 h 1; have h2 := dg_6 h 2; have h3 := dg_6 h 3; have h4 := dg_6 h 4; have h5 := dg_6 h 5
  have hl := e8_lt h
  rw [sh_s d hd, nI_1, nI_l (by omega), l_shl (by omega)]
  have em : lN (y + 1) * Int64.ofNat (2 ^ (3 * (5 - d))) = lN ((y + 1) * 2 ^ (3 * (5 - d))) := lN_mul _ _
  rw [em]
  have ee : e8 (fun i => if i = d then y else w i) (d + 1) = e8 w d + (y + 1) * 2 ^ (3 * (5 - d)) := by
    unfold e8 dg
    obtain rfl | rfl | rfl | rfl | rfl | rfl : d = 0 ∨ d = 1 ∨ d = 2 ∨ d = 3 ∨ d = 4 ∨ d = 5 := by omega
    all_goals (simp; try omega)
  rw [ee, ← lN_add]
  apply l_or
  apply Int64.toBitVec_inj.1
  rw [Int64.toBitVec_and]
  apply BitVec.eq_of_getLsbD_eq
  intro i hi
  rw [BitVec.getLsbD_and]
  show ((BitVec.ofNat 64 (e8 w d)).getLsbD i && (BitVec.ofNat 64 ((y + 1) * 2 ^ (3 * (5 - d)))).getLsbD i) = (0 : BitVec 64).getLsbD i
  rw [BitVec.getLsbD_ofNat, BitVec.getLsbD_ofNat]
  have hm : e8 w d = (e8 w d / 2 ^ (3 * (6 - d))) * 2 ^ (3 * (6 - d)) := by
    unfold e8 dg
    obtain rfl | rfl | rfl | rfl | rfl | rfl : d = 0 ∨ d = 1 ∨ d = 2 ∨ d = 3 ∨ d = 4 ∨ d = 5 := by omega
    all_goals (simp; try omega)
  by_cases hi1 : i < 3 * (6 - d)
  · have : (e8 w d).testBit i = false := by rw [hm, Nat.testBit_mul_two_pow]; simp; intro q; omega
    simp [this]
  · have : ((y + 1) * 2 ^ (3 * (5 - d))).testBit i = false := by
      apply Nat.testBit_lt_two_pow
      have : (y + 1) * 2 ^ (3 * (5 - d)) < 2 ^ 3 * 2 ^ (3 * (5 - d)) := Nat.mul_lt_mul_of_pos_right (by omega) (Nat.pos_of_ne_zero (by simp))
      rw [← Nat.pow_add] at this
      exact Nat.lt_of_lt_of_le this (Nat.pow_le_pow_right (by decide) (by omega))
    simp [this]
