-- PURE: closed forms of the class's small functions; nothing here speaks of the machine
theorem px_nn {x : Int32} : ¬ x < 0 ↔ 0 ≤ x.toInt := by
  have q2 : (0 : Int32).toInt = 0 := rfl
  rw [Int32.lt_iff_toInt_lt, q2]
  omega
theorem px_ix {x c : Int32} {n : Nat} (h0 : ¬ x < 0) (h1 : ¬ c ≤ x) (hc : c.toInt = n) : ix x n = true := by
  have h2 := px_nn.mp h0
  have h3 : ¬ c.toInt ≤ x.toInt := fun h => h1 (Int32.le_iff_toInt_le.mpr h)
  exact decide_eq_true ⟨h2, by omega⟩
theorem px_ixl {x c : Int32} {n : Nat} (h0 : ¬ x < 0) (h1 : x < c) (hc : c.toInt = n) : ix x n = true := by
  have h2 := px_nn.mp h0
  have h3 := Int32.lt_iff_toInt_lt.mp h1
  exact decide_eq_true ⟨h2, by omega⟩
theorem ck_t {α : Type} {b : Bool} {x : Option α} (h : b = true) : ck b x = x := by rw [h]; rfl
theorem bR_s {α β S : Type} {r : α} {t : S} {f : α → S → Option β} : bR (some (r, t)) f = f r t := rfl
theorem bV_s {β S : Type} {t : S} {f : S → Option β} : bV (some t) f = f t := rfl
/-- the place of the value that was taken behind k others -/
def pPl (a : CwS) (i : Nat) (k : Int32) : Int32 := gI a 19 i 0 - 1 - k
def pKind (a : CwS) (i : Nat) (k : Int32) : Int32 := if pPl a i k < 0 then 3 else if (12 : Int32) ≤ pPl a i k then 3 else gI a 17 i (pPl a i k).toNatClampNeg
def pNum (a : CwS) (i : Nat) (k : Int32) : Int64 := if pPl a i k < 0 then 0 else if (12 : Int32) ≤ pPl a i k then 0 else gL a 6 i (pPl a i k).toNatClampNeg
theorem p_tookKind (i : Nat) (k : Int32) (a : CwS) : j_Pile_tookKind i k a = some (pKind a i k, a) := by
  unfold j_Pile_tookKind pKind pPl
  split
  · rfl
  · split
    · rfl
    · rw [ck_t (px_ix ‹_› ‹_› rfl)]
theorem p_took (i : Nat) (k : Int32) (a : CwS) : j_Pile_took i k a = some (pNum a i k, a) := by
  unfold j_Pile_took pNum pPl
  split
  · rfl
  · split
    · rfl
    · rw [ck_t (px_ix ‹_› ‹_› rfl)]
theorem p_tookNumber (i : Nat) (k : Int32) (a : CwS) : j_Pile_tookNumber i k a = some (if pKind a i k = 0 then 1 else 0, a) := by
  unfold j_Pile_tookNumber
  rw [p_tookKind, bR_s]
  split <;> rfl
/-- a value on the pile -/
def pPut (a : CwS) (i : Nat) (kd : Int32) (v : Int64) : CwS := sI (sL (sI a 17 i (gI a 18 i 0).toNatClampNeg kd) 6 i (gI a 18 i 0).toNatClampNeg v) 18 i 0 (gI a 18 i 0 + 1)
theorem p_put (i : Nat) (kd : Int32) (v : Int64) (a : CwS) (h0 : ¬ gI a 18 i 0 < 0) (h1 : gI a 18 i 0 < 12) : j_Pile_put i kd v a = some (0, pPut a i kd v) := by
  have hx := px_ixl h0 h1 (n := 12) rfl
  have e1 : ∀ (p : Nat) (w : Int32), gI (sI a 17 i p w) 18 i 0 = gI a 18 i 0 := fun _ _ => rfl
  have e2 : ∀ (p q : Nat) (w : Int32) (z : Int64), gI (sL (sI a 17 i p w) 6 i q z) 18 i 0 = gI a 18 i 0 := fun _ _ _ _ => rfl
  unfold j_Pile_put pPut
  rw [if_neg h0, if_pos h1, ck_t hx, e1, ck_t hx, e2]
theorem p_putNumber (i : Nat) (v : Int64) (a : CwS) (h0 : ¬ gI a 18 i 0 < 0) (h1 : gI a 18 i 0 < 12) : j_Pile_putNumber i v a = some (0, pPut a i 0 v) := by
  unfold j_Pile_putNumber
  rw [p_put i 0 v a h0 h1, bR_s]
/-- what a step takes -/
def pTake (a : CwS) (i : Nat) (k : Int32) : CwS := sI (sI a 19 i 0 (gI a 18 i 0)) 18 i 0 (if (0 : Int32) < gI a 18 i 0 - k then gI a 18 i 0 - k else 0)
theorem p_take (i : Nat) (k : Int32) (a : CwS) : j_Pile_take i k a = some (pTake a i k) := rfl
theorem p_hasPlace (j : Nat) (x : Int32) (a : CwS) : j_Beh_hasPlace j x a = some (if x < 0 then 0 else if gI a 2 j 0 < x then 0 else 1, a) := by
  unfold j_Beh_hasPlace
  split
  · rfl
  · split <;> rfl
theorem p_isLeaf (x : Int32) (a : CwS) : j_CW_isLeaf x a = some (if x < 0 then 0 else if (8 : Int32) ≤ x then 0 else 1, a) := by
  unfold j_CW_isLeaf
  split
  · rfl
  · split <;> rfl
theorem p_isContract (x : Int32) (a : CwS) : j_CW_isContract x a = some (if x < 0 then 0 else if (8 : Int32) ≤ x then 0 else 1, a) := by
  unfold j_CW_isContract
  split
  · rfl
  · split <;> rfl
theorem p_isBehaviour (x y : Int32) (a : CwS) : j_CW_isBehaviour x y a = some (if x < 0 then 0 else if (8 : Int32) ≤ x then 0 else if y < 0 then 0 else if (6 : Int32) ≤ y then 0 else 1, a) := by
  unfold j_CW_isBehaviour
  rw [p_isContract, bR_s]
  by_cases h1 : x < 0
  · simp [h1]
  · by_cases h2 : (8 : Int32) ≤ x
    · simp [h1, h2]
    · simp only [h1, h2, if_false]
      split
      · exact absurd ‹_› (by decide)
      · split
        · rfl
        · split <;> rfl
-- the reference's
def mPush (b : CwS) (i : Nat) (sort : Int32) (v : Int64) (r : Nat) : CwS := sI (sR (sL (sI b 21 i (gI b 18 i 0).toNatClampNeg sort) 7 i (gI b 18 i 0).toNatClampNeg v) 50 (16 * i + (gI b 18 i 0).toNatClampNeg) r) 18 i 0 (gI b 18 i 0 + 1)
theorem m_push (i : Nat) (sort : Int32) (v : Int64) (r : Nat) (b : CwS) (hx : ix (gI b 18 i 0) 13 = true) (hr : r = 0 ∨ isRow b r = true) : j_MF_push i sort v r b = some (mPush b i sort v r) := by
  have hr2 : (decide (r = 0) || isRow b r) = true := by
    rcases hr with h | h
    · simp [h]
    · simp [h]
  unfold j_MF_push
  refine (ck_t hx).trans ?_
  refine (ck_t hx).trans ?_
  refine (ck_t hr2).trans ?_
  refine (ck_t hx).trans ?_
  rfl
theorem m_number (i : Nat) (v : Int64) (b : CwS) (hx : ix (gI b 18 i 0) 13 = true) : j_MF_number i v b = some (mPush b i 0 v 0) := by
  unfold j_MF_number
  rw [m_push i 0 v 0 b hx (Or.inl rfl), bV_s]
theorem m_isNumber (i : Nat) (k : Int32) (b : CwS) (hx : ix k 13 = true) : j_MF_isNumber i k b = some (if gI b 21 i k.toNatClampNeg = 0 then 1 else 0, b) := by
  unfold j_MF_isNumber
  rw [ck_t hx]
  split <;> rfl
theorem m_isIn (v lo hi : Int32) (b : CwS) : j_Mo_isIn v lo hi b = some (if v < lo then 0 else if hi < v then 0 else 1, b) := by
  unfold j_Mo_isIn
  split
  · rfl
  · split <;> rfl
