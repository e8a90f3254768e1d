-- PURE: what a step took, in places
theorem i10 : ((1 : Int32) = 0) = False := eq_false (by decide)
theorem i00 : ((0 : Int32) = 0) = True := eq_true rfl
theorem nI_p2 (a : Nat) : nI a + 2 = nI (a + 2) := nI_add a 2
theorem nI_p3 (a : Nat) : nI a + 3 = nI (a + 3) := nI_add a 3
theorem nI_p4 (a : Nat) : nI a + 4 = nI (a + 4) := nI_add a 4
theorem tkP {a : CwS} {i H : Nat} (k p : Nat) (hH : gI a 19 i 0 = nI H) (hp : p + k + 1 = H) : pPl a i (nI k) = nI p := by
  unfold pPl
  subst hp
  rw [hH, nI_pred, ← nI_add, Int32.add_sub_cancel]
theorem tkK {a : CwS} {i H : Nat} (k p : Nat) (hH : gI a 19 i 0 = nI H) (hp : p + k + 1 = H) (h12 : H ≤ 12) : j_Pile_tookKind i (nI k) a = some (gI a 17 i p, a) := by
  rw [p_tookKind]
  unfold pKind
  rw [tkP k p hH hp, if_neg (nI_pos (by omega)), if_neg (show ¬ (12 : Int32) ≤ nI p from nI_ge (b := 12) (by omega) (by omega)), nI_clamp (by omega)]
theorem tkN {a : CwS} {i H : Nat} (k p : Nat) (hH : gI a 19 i 0 = nI H) (hp : p + k + 1 = H) (h12 : H ≤ 12) : j_Pile_took i (nI k) a = some (gL a 6 i p, a) := by
  rw [p_took]
  unfold pNum
  rw [tkP k p hH hp, if_neg (nI_pos (by omega)), if_neg (show ¬ (12 : Int32) ≤ nI p from nI_ge (b := 12) (by omega) (by omega)), nI_clamp (by omega)]
theorem tkB {a : CwS} {i H : Nat} (k p : Nat) (hH : gI a 19 i 0 = nI H) (hp : p + k + 1 = H) (h12 : H ≤ 12) : j_Pile_tookNumber i (nI k) a = some (if gI a 17 i p = 0 then 1 else 0, a) := by
  unfold j_Pile_tookNumber
  rw [tkK k p hH hp h12, bR_s]
  split <;> rfl
theorem mNb {b : CwS} {i p : Nat} (h : p < 13) : j_MF_isNumber i (nI p) b = some (if gI b 21 i p = 0 then 1 else 0, b) := by
  rw [m_isNumber i (nI p) b (ixn h (by omega)), nI_clamp (by omega)]
theorem Rel.hi {a b : CwS} {i base T F S c bb n hn h H : Nat} (r : Rel a b i base T F S c bb n hn h H) : gI a 18 i 0 = nI h ∧ gI b 18 i 0 = nI h ∧ h ≤ H ∧ H ≤ 12 := r.2.2.2.2.2.2.2.2.1
theorem Rel.pile {a b : CwS} {i base T F S c bb n hn h H : Nat} (r : Rel a b i base T F S c bb n hn h H) : pR a b i base H := r.2.2.2.2.2.2.2.1
theorem Rel.han {a b : CwS} {i base T F S c bb n hn h H : Nat} (r : Rel a b i base T F S c bb n hn h H) : rHan a b i hn := r.2.2.2.2.2.2.1
theorem Rel.nx {a b : CwS} {i base T F S c bb n hn h H : Nat} (r : Rel a b i base T F S c bb n hn h H) : rNx a b i n := r.2.2.2.2.2.1
theorem Rel.fr {a b : CwS} {i base T F S c bb n hn h H : Nat} (r : Rel a b i base T F S c bb n hn h H) : rFr a b i c bb S T := r.2.2.2.2.1
theorem Rel.dep {a b : CwS} {i base T F S c bb n hn h H : Nat} (r : Rel a b i base T F S c bb n hn h H) : rDep a b (i + 1) := r.2.2.2.1
theorem Rel.cnt {a b : CwS} {i base T F S c bb n hn h H : Nat} (r : Rel a b i base T F S c bb n hn h H) : rCnt a b T F := r.2.2.1
theorem Rel.led {a b : CwS} {i base T F S c bb n hn h H : Nat} (r : Rel a b i base T F S c bb n hn h H) : rLed a b := r.2.1
theorem Rel.book {a b : CwS} {i base T F S c bb n hn h H : Nat} (r : Rel a b i base T F S c bb n hn h H) : rBook a b := r.1
theorem Rel.hp {a b : CwS} {i base T F S c bb n hn h H : Nat} (r : Rel a b i base T F S c bb n hn h H) : rHp b i base := r.2.2.2.2.2.2.2.2.2
theorem Rel.kd {a b : CwS} {i base T F S c bb n hn h H : Nat} (r : Rel a b i base T F S c bb n hn h H) (p : Nat) (hp : p < H) : gI b 21 i p = gI a 17 i p := (r.pile.1 p hp).1
theorem Rel.vr {a b : CwS} {i base T F S c bb n hn h H : Nat} (r : Rel a b i base T F S c bb n hn h H) (p : Nat) (hp : p < H) : vR a b i base (gI a 17 i p) (gL a 6 i p) (gL b 7 i p) (gR b 50 (16 * i + p)) := (r.pile.1 p hp).2
theorem vR.num {a b : CwS} {i base : Nat} {kd : Int32} {va vb : Int64} {r : Nat} (h : vR a b i base kd va vb r) (k : kd = 0 ∨ kd = 3) : vb = va ∧ r = 0 := by
  rcases h with ⟨_, h1, h2⟩ | ⟨h1, _⟩
  · exact ⟨h1.symm, h2⟩
  · rcases k with rfl | rfl <;> rcases h1 with h1 | h1 <;> exact absurd h1 (by decide)
theorem vR.row {a b : CwS} {i base : Nat} {kd : Int32} {va vb : Int64} {r : Nat} (h : vR a b i base kd va vb r) (k0 : ¬ kd = 0) (k3 : ¬ kd = 3) : (kd = 1 ∨ kd = 2) ∧ ∃ ρ α n : Nat, ρ < 12 ∧ va = lN ρ ∧ r = α + 1 ∧ base ≤ α ∧ α < gR b 101 2 ∧ gR b 103 α = 1 ∧ gR b 100 α = n ∧ n ≤ 16 ∧ gI a 20 i ρ = nI n ∧ ∀ k, k < n → gL a 7 i (16 * ρ + k) = gL b 9 α k := by
  rcases h with ⟨h, _⟩ | h
  · rcases h with h | h
    · exact absurd h k0
    · exact absurd h k3
  · exact h
theorem Rel.nm {a b : CwS} {i base T F S c bb n hn h H : Nat} (r : Rel a b i base T F S c bb n hn h H) (p : Nat) (hp : p < H) (k : gI a 17 i p = 0) : gL b 7 i p = gL a 6 i p := ((r.vr p hp).num (Or.inl k)).1
-- codes 0, 30, 31: gd_put; 1, 2
theorem nI_m8 {c x : Nat} : nI c * 8 + nI x = nI (8 * c + x) := by
  have e : (8 : Int32) = nI 8 := rfl
  have e2 : nI c * nI 8 = nI (c * 8) := (Int32.ofNat_mul c 8).symm
  rw [e, e2, nI_add, Nat.mul_comm]
theorem nI_8m {c x : Nat} : 8 * nI c + nI x = nI (8 * c + x) := by
  have e : (8 : Int32) = nI 8 := rfl
  have e2 : nI 8 * nI c = nI (8 * c) := (Int32.ofNat_mul 8 c).symm
  rw [e, e2, nI_add]
theorem nI_m6 {c x : Nat} : nI c * 6 + nI x = nI (6 * c + x) := by
  have e : (6 : Int32) = nI 6 := rfl
  have e2 : nI c * nI 6 = nI (c * 6) := (Int32.ofNat_mul c 6).symm
  rw [e, e2, nI_add, Nat.mul_comm]
theorem nI_6m {c x : Nat} : 6 * nI c + nI x = nI (6 * c + x) := by
  have e : (6 : Int32) = nI 6 := rfl
  have e2 : nI 6 * nI c = nI (6 * c) := (Int32.ofNat_mul 6 c).symm
  rw [e, e2, nI_add]
theorem nI_24m {c x : Nat} : 24 * nI c + nI x = nI (24 * c + x) := by
  have e : (24 : Int32) = nI 24 := rfl
  have e2 : nI 24 * nI c = nI (24 * c) := (Int32.ofNat_mul 24 c).symm
  rw [e, e2, nI_add]
/-- an int is in 0 .. m - 1, or not -/
theorem inNat (x : Int32) (m : Nat) (hm : m < 2 ^ 31) (h0 : ¬ x < 0) (h1 : ¬ nI m ≤ x) : ∃ j, j < m ∧ x = nI j := by
  obtain ⟨j, hj, rfl⟩ := nI_of h0
  refine ⟨j, ?_, rfl⟩
  rcases Nat.lt_or_ge j m with h | h
  · exact h
  · exact absurd (nI_le h hj) h1
theorem bV_id {α : Type} (x : Option (α × CwS)) : (bR x fun r t => some (r, t)) = x := by
  cases x <;> rfl
theorem g_putLeaf {a b : CwS} {i base T F S c bb n hn h H : Nat} (r : Rel a b i base T F S c bb n hn h H) (g : h < 12) (x : Int32) (RAN : Nat → Int64 → CwS → Option (Int32 × CwS)) (x6 : Int32) : Good a b i base T F S c bb (j_Walk_putLeaf i x a) (j_Mo_done_L202 RAN i 1 x x6 b) := by
  have f := r.fr
  have fc : c < 8 := f.2.2.1
  unfold j_Walk_putLeaf j_Mo_done_L202
  rw [if_neg (by decide), if_pos rfl, p_isLeaf, m_isIn, bR_s, bR_s]
  by_cases h0 : x < 0
  · simp only [h0, if_true]
    exact gd_fail 12 (by omega) r
  · by_cases h1 : (8 : Int32) ≤ x
    · have h2 : (7 : Int32) < x := by grind
      simp only [h0, h1, h2, if_true, if_false]
      exact gd_fail 12 (by omega) r
    · have h2 : ¬ (7 : Int32) < x := by grind
      obtain ⟨j, hj, rfl⟩ := inNat x 8 (by omega) h0 h1
      simp only [h0, h1, h2, if_false, i10]
      rw [f.1, f.2.1, nI_m8, nI_8m, ckn (by omega) (by omega), ckn (by omega) (by omega), nI_clamp (by omega), r.led.1, bV_id]
      exact gd_put r g _
theorem g_changeLeaf {a b : CwS} {i base T F S c bb n hn h : Nat} (r : Rel a b i base T F S c bb n hn h (h + 1)) (hH : gI a 19 i 0 = nI (h + 1)) (x : Int32) (RAN : Nat → Int64 → CwS → Option (Int32 × CwS)) : Good a b i base T F S c bb (j_Walk_changeLeaf i x a) (j_Mo_done_L202 RAN i 2 x (nI h) b) := by
  have f := r.fr
  have fc : c < 8 := f.2.2.1
  have q := r.hi
  have t0 : j_Pile_tookNumber i (0 : Int32) a = _ := tkB 0 h hH rfl q.2.2.2
  have t1 : j_Pile_took i (0 : Int32) a = _ := tkN 0 h hH rfl q.2.2.2
  unfold j_Walk_changeLeaf j_Mo_done_L202 j_Mo_done_L372
  rw [if_neg (by decide), if_neg (by decide), if_pos rfl, p_isLeaf, m_isIn, bR_s, bR_s, t0, mNb (by omega), r.kd h (by omega)]
  by_cases h0 : x < 0
  · simp only [h0, if_true, m_isIn, bR_s]
    exact gd_fail 12 (by omega) r
  · by_cases h1 : (8 : Int32) ≤ x
    · have h2 : (7 : Int32) < x := by grind
      simp only [h0, h1, h2, if_true, if_false, m_isIn, bR_s]
      exact gd_fail 12 (by omega) r
    · have h2 : ¬ (7 : Int32) < x := by grind
      by_cases k0 : gI a 17 i h = 0
      · obtain ⟨j, hj, rfl⟩ := inNat x 8 (by omega) h0 h1
        simp only [h0, h1, h2, if_false, i10, bR_s, k0, if_true, t1]
        rw [f.1, f.2.1, nI_m8, nI_8m, ckn (by omega) (by omega), ckn (by omega) (by omega), ckn (by omega) (by omega), nI_clamp (by omega), nI_clamp (by omega), r.nm h (by omega) k0]
        obtain ⟨r1, r2, r3, r4, r5, r6, r7, r8, r9, r10⟩ := r.low
        refine ⟨0, n, hn, h, _, _, rfl, rfl, by omega, ⟨r1, ⟨?_, r2.2⟩, r3, r4, r5, r6, r7, r8, r9, r10⟩, (SameC.refl _ _).wL _ (by unfold cOkL; omega), (SameM.refl _ _ _).wL _ (by unfold mOkL; omega), rfl, Nat.le_succ _, Nat.le_add_right _ _⟩
        rw [cw_updL, cw_updL, r2.1]
      · simp only [h0, h1, h2, if_false, i10, bR_s, k0, if_true, m_isIn]
        exact gd_fail 4 (by omega) r
