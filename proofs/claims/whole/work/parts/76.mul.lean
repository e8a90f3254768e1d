-- PURE: a product that fits, told by the high half and by a division
theorem h_shr (x s : Int64) (k : Nat) (hs : (s.toBitVec.smod 64).toNat = k) : (x >>> s).toInt = x.toInt / 2 ^ k := by
  show (x.toBitVec.sshiftRight' (s.toBitVec.smod 64)).toInt = _
  rw [BitVec.sshiftRight_eq', BitVec.toInt_sshiftRight, hs, Int.shiftRight_eq_div_pow]
  rfl
theorem h_nat (x : Int64) : (x.toBitVec.toNat : Int) = x.toInt % 2 ^ 64 := by
  have h : x.toInt = x.toBitVec.toInt := rfl
  rw [h, BitVec.toInt_eq_toNat_cond]
  have := x.toBitVec.isLt
  split <;> omega
theorem h_and (x : Int64) : (x &&& 4294967295).toInt = x.toInt % 2 ^ 32 := by
  show (x.toBitVec &&& (4294967295 : Int64).toBitVec).toInt = _
  have e : (x.toBitVec &&& (4294967295 : Int64).toBitVec).toNat = x.toBitVec.toNat % 2 ^ 32 := by
    rw [BitVec.toNat_and]
    exact Nat.and_two_pow_sub_one_eq_mod _ 32
  rw [BitVec.toInt_eq_toNat_of_lt (by rw [e]; omega), e]
  have := h_nat x
  omega
theorem h_ushr (z : Int64) : ((z.toUInt64 >>> (((32 : Int32)).toInt64.toUInt64 &&& Int64.toUInt64 63)).toInt64).toInt = (z.toInt % 2 ^ 64) / 2 ^ 32 := by
  have e : (z.toUInt64 >>> (((32 : Int32)).toInt64.toUInt64 &&& Int64.toUInt64 63)).toNat = z.toBitVec.toNat / 2 ^ 32 := by
    rw [UInt64.toNat_shiftRight]
    exact Nat.shiftRight_eq_div_pow _ 32
  have e2 : ((z.toUInt64 >>> (((32 : Int32)).toInt64.toUInt64 &&& Int64.toUInt64 63)).toInt64).toBitVec.toNat = z.toBitVec.toNat / 2 ^ 32 := e
  have l := z.toBitVec.isLt
  have h := h_nat z
  show ((z.toUInt64 >>> (((32 : Int32)).toInt64.toUInt64 &&& Int64.toUInt64 63)).toInt64).toBitVec.toInt = _
  rw [BitVec.toInt_eq_toNat_of_lt (by rw [e2]; omega), e2, ← h]
  omega
theorem h_rng (x : Int64) : -9223372036854775808 ≤ x.toInt ∧ x.toInt ≤ 9223372036854775807 := by
  have h : x.toInt = x.toBitVec.toInt := rfl
  rw [h, BitVec.toInt_eq_toNat_cond]
  have := x.toBitVec.isLt
  split <;> omega
theorem h_bm {v : Int} (h : -9223372036854775808 ≤ v ∧ v ≤ 9223372036854775807) : v.bmod (2 ^ 64) = v := by
  rw [Int.bmod_def]
  split <;> omega
theorem h_mulB {u v : Int} (hu0 : 0 ≤ u) (hu : u ≤ 4294967295) (hv0 : -2147483648 ≤ v) (hv : v ≤ 2147483647) : -9223372034707292160 ≤ u * v ∧ u * v ≤ 9223372030412324865 := by
  constructor
  · have h1 : u * -2147483648 ≤ u * v := Int.mul_le_mul_of_nonneg_left hv0 hu0
    omega
  · have h1 : u * v ≤ u * 2147483647 := Int.mul_le_mul_of_nonneg_left hv hu0
    omega
theorem h_mulU {u v : Int} (hu0 : 0 ≤ u) (hu : u ≤ 4294967295) (hv0 : 0 ≤ v) (hv : v ≤ 4294967295) : 0 ≤ u * v ∧ u * v ≤ 18446744065119617025 := by
  constructor
  · exact Int.mul_nonneg hu0 hv0
  · have h1 : u * v ≤ u * 4294967295 := Int.mul_le_mul_of_nonneg_left hv hu0
    omega
theorem h_mulS {u v : Int} (hu0 : -2147483648 ≤ u) (hu : u ≤ 2147483647) (hv0 : -2147483648 ≤ v) (hv : v ≤ 2147483647) : -4611686018427387904 ≤ u * v ∧ u * v ≤ 4611686018427387904 := by
  rcases Int.le_total 0 u with h | h
  · have h1 : u * -2147483648 ≤ u * v := Int.mul_le_mul_of_nonneg_left hv0 h
    have h2 : u * v ≤ u * 2147483647 := Int.mul_le_mul_of_nonneg_left hv h
    omega
  · have h1 : u * 2147483647 ≤ u * v := Int.mul_le_mul_of_nonpos_left h hv
    have h2 : u * v ≤ u * -2147483648 := Int.mul_le_mul_of_nonpos_left h hv0
    omega
/-- the high half of a product -/
theorem h_high (x y : Int64) (st : CwS) : ∃ z : Int64, j_Math_multiplyHigh x y st = some (z, st) ∧ z.toInt = (x.toInt * y.toInt) / 2 ^ 64 := by
  refine ⟨_, rfl, ?_⟩
  have s32 : ∀ v : Int64, (v >>> (((32 : Int32)).toInt64 &&& 63)).toInt = v.toInt / 2 ^ 32 := fun v => h_shr v _ 32 rfl
  have rx := h_rng x
  have ry := h_rng y
  have dx : x.toInt = 4294967296 * (x.toInt / 2 ^ 32) + x.toInt % 2 ^ 32 := by omega
  have dy : y.toInt = 4294967296 * (y.toInt / 2 ^ 32) + y.toInt % 2 ^ 32 := by omega
  have bx1 : -2147483648 ≤ x.toInt / 2 ^ 32 ∧ x.toInt / 2 ^ 32 ≤ 2147483647 := by omega
  have by1 : -2147483648 ≤ y.toInt / 2 ^ 32 ∧ y.toInt / 2 ^ 32 ≤ 2147483647 := by omega
  have bx0 : 0 ≤ x.toInt % 2 ^ 32 ∧ x.toInt % 2 ^ 32 ≤ 4294967295 := by omega
  have by0 : 0 ≤ y.toInt % 2 ^ 32 ∧ y.toInt % 2 ^ 32 ≤ 4294967295 := by omega
  rw [Int64.toInt_add, Int64.toInt_add, Int64.toInt_mul, s32, s32, s32, s32, Int64.toInt_add, Int64.toInt_add, Int64.toInt_mul, Int64.toInt_mul, h_and, h_and, h_and, h_ushr, Int64.toInt_mul, Int64.toInt_add, Int64.toInt_mul, h_ushr, Int64.toInt_mul, s32, s32, h_and, h_and]
  generalize x.toInt / 2 ^ 32 = x1 at *
  generalize y.toInt / 2 ^ 32 = y1 at *
  generalize x.toInt % 2 ^ 32 = x0 at *
  generalize y.toInt % 2 ^ 32 = y0 at *
  have p11 := h_mulS bx1.1 bx1.2 by1.1 by1.2
  have p10 := h_mulB by0.1 by0.2 bx1.1 bx1.2
  have p01 := h_mulB bx0.1 bx0.2 by1.1 by1.2
  have p00 := h_mulU bx0.1 bx0.2 by0.1 by0.2
  have tot : x.toInt * y.toInt = 18446744073709551616 * (x1 * y1) + 4294967296 * (y0 * x1 + x0 * y1) + x0 * y0 := by
    rw [dx, dy]
    grind
  rw [tot]
  rw [Int.mul_comm x1 y0]
  generalize x1 * y1 = q11 at *
  generalize y0 * x1 = q10 at *
  generalize x0 * y1 = q01 at *
  generalize x0 * y0 = q00 at *
  have e00 : q00.bmod (2 ^ 64) % 2 ^ 64 = q00 := by rw [Int.bmod_def]; split <;> omega
  rw [e00]
  have b10 : q10.bmod (2 ^ 64) = q10 := h_bm (by omega)
  have b01 : q01.bmod (2 ^ 64) = q01 := h_bm (by omega)
  have b11 : q11.bmod (2 ^ 64) = q11 := h_bm (by omega)
  rw [b10, b01, b11]
  have bt : (q10 + q00 / 2 ^ 32).bmod (2 ^ 64) = q10 + q00 / 2 ^ 32 := h_bm (by omega)
  rw [bt]
  have bz : ((q10 + q00 / 2 ^ 32) % 2 ^ 32 + q01).bmod (2 ^ 64) = (q10 + q00 / 2 ^ 32) % 2 ^ 32 + q01 := h_bm (by omega)
  rw [bz]
  have bs : (q11 + (q10 + q00 / 2 ^ 32) / 2 ^ 32).bmod (2 ^ 64) = q11 + (q10 + q00 / 2 ^ 32) / 2 ^ 32 := h_bm (by omega)
  rw [bs, h_bm (by omega)]
  omega
def pFit (x y : Int64) : Prop := -9223372036854775808 ≤ x.toInt * y.toInt ∧ x.toInt * y.toInt ≤ 9223372036854775807
theorem lg_cmp0 {x y : Int64} : lg_cmp x y = 0 ↔ x = y := lg_cmp_eq x y
theorem h_ref (x y : Int64) (st : CwS) : (pFit x y → j_Mo_fits 8 x y st = some (1, st)) ∧ (¬ pFit x y → j_Mo_fits 8 x y st = some (0, st)) := by
  obtain ⟨z, hz, hv⟩ := h_high x y st
  have e : ((x * y) >>> (((63 : Int32)).toInt64 &&& 63)).toInt = (x * y).toInt / 2 ^ 63 := h_shr _ _ 63 rfl
  have c : z = (x * y) >>> (((63 : Int32)).toInt64 &&& 63) ↔ pFit x y := by
    rw [← Int64.toInt_inj, hv, e, Int64.toInt_mul]
    unfold pFit
    generalize x.toInt * y.toInt = w
    rw [Int.bmod_def]
    split <;> omega
  unfold j_Mo_fits
  rw [if_pos rfl, hz, bR_s]
  refine ⟨fun h => if_pos (lg_cmp0.mpr (c.mpr h)), fun h => if_neg fun g => h (c.mp (lg_cmp0.mp g))⟩
theorem h_cls (x y : Int64) (st : CwS) : (pFit x y → j_CW_productFits x y st = some (1, st)) ∧ (¬ pFit x y → j_CW_productFits x y st = some (0, st)) := by
  unfold j_CW_productFits
  have ry := h_rng y
  have rx := h_rng x
  by_cases h0 : x = 0
  · rw [if_pos (lg_cmp0.mpr h0)]
    refine ⟨fun _ => rfl, fun g => absurd ?_ g⟩
    rw [h0]
    unfold pFit
    rw [show (0 : Int64).toInt = 0 from rfl]
    omega
  · rw [if_neg fun g => h0 (lg_cmp0.mp g)]
    have hx : x.toInt ≠ 0 := fun g => h0 (Int64.toInt_inj.mp (by rw [g]; rfl))
    by_cases h1 : x = -1
    · rw [if_pos (lg_cmp0.mpr h1)]
      have e1 : x.toInt = -1 := by rw [h1]; rfl
      by_cases h2 : y = -9223372036854775808
      · rw [if_pos (lg_cmp0.mpr h2)]
        refine ⟨fun g => ?_, fun _ => rfl⟩
        have e2 : y.toInt = -9223372036854775808 := by rw [h2]; rfl
        unfold pFit at g
        rw [e1, e2] at g
        omega
      · rw [if_neg fun g => h2 (lg_cmp0.mp g)]
        refine ⟨fun _ => rfl, fun g => absurd ?_ g⟩
        have e2 : y.toInt ≠ -9223372036854775808 := fun g => h2 (Int64.toInt_inj.mp (by rw [g]; rfl))
        unfold pFit
        rw [e1]
        omega
    · rw [if_neg fun g => h1 (lg_cmp0.mp g), ck_t (by simp [h0])]
      have c : (x * y) / x = y ↔ pFit x y := by
        have e1 : x.toInt ≠ -1 := fun g => h1 (Int64.toInt_inj.mp (by rw [g]; rfl))
        rw [← Int64.toInt_inj, Int64.toInt_div_of_ne_right _ _ h1]
        unfold pFit
        constructor
        · intro g
          have r1 := h_rng (x * y)
          have d := Int.mul_tdiv_add_tmod (x * y).toInt x.toInt
          have m := Int.natAbs_tmod (x * y).toInt x.toInt
          have m2 : (x * y).toInt.natAbs % x.toInt.natAbs < x.toInt.natAbs := Nat.mod_lt _ (by omega)
          rw [g] at d
          have b1 : (x * y).toInt = (x.toInt * y.toInt).bmod (2 ^ 64) := Int64.toInt_mul x y
          rw [Int.bmod_def] at b1
          generalize (x * y).toInt.tmod x.toInt = R at *
          generalize (x * y).toInt = P at *
          generalize x.toInt * y.toInt = Q at *
          split at b1 <;> omega
        · intro g
          rw [Int64.toInt_mul, h_bm g, Int.mul_tdiv_cancel_left _ hx]
      refine ⟨fun h => if_pos (lg_cmp0.mpr (c.mpr h)), fun h => if_neg fun g => h (c.mp (lg_cmp0.mp g))⟩
