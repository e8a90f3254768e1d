-- PURE: the lowest number that no row on the pile has
def cnB : Nat → Nat → Nat
  | 0, _ => 0
  | k + 1, u => cnB k u + (if u.testBit k then 1 else 0)
theorem cnB_or (u ρ : Nat) : ∀ k, cnB k (u ||| 2 ^ ρ) ≤ cnB k u + (if ρ < k then 1 else 0)
  | 0 => Nat.zero_le _
  | k + 1 => by
    have ih := cnB_or u ρ k
    unfold cnB
    rw [Nat.testBit_or, Nat.testBit_two_pow]
    by_cases h : ρ = k
    · subst h
      rw [if_neg (Nat.lt_irrefl _)] at ih
      rw [if_pos (Nat.lt_succ_self ρ)]
      cases u.testBit ρ <;> simp <;> omega
    · have e : (decide (ρ = k)) = false := decide_eq_false h
      rw [e, Bool.or_false]
      by_cases h2 : ρ < k
      · rw [if_pos h2] at ih; rw [if_pos (Nat.lt_succ_of_lt h2)]; omega
      · rw [if_neg h2] at ih; rw [if_neg (show ¬ ρ < k + 1 by omega)]; omega
theorem cnB_full (u : Nat) : ∀ k, (∀ j, j < k → u.testBit j = true) → cnB k u = k
  | 0, _ => rfl
  | k + 1, h => by
    unfold cnB
    rw [cnB_full u k (fun j hj => h j (Nat.lt_succ_of_lt hj)), h k (Nat.lt_succ_self k), if_pos rfl]
theorem cnB_free {u : Nat} (h : cnB 12 u < 12) : ∃ j, j < 12 ∧ u.testBit j = false := by
  by_cases g : ∃ j, j < 12 ∧ u.testBit j = false
  · exact g
  · exfalso
    have := cnB_full u 12 (fun j hj => by
      cases e : u.testBit j
      · exact absurd ⟨j, hj, e⟩ g
      · rfl)
    omega
theorem s_l31 : ∀ n, n < 32 → ((nI n &&& 31).toBitVec.smod 32).toNat = n := by decide +kernel
theorem nI_or (a b : Nat) : nI a ||| nI b = nI (a ||| b) := by
  have h : (nI a ||| nI b).toBitVec = (nI (a ||| b)).toBitVec := by
    show BitVec.ofNat 32 a ||| BitVec.ofNat 32 b = BitVec.ofNat 32 (a ||| b)
    rw [BitVec.ofNat_or]
  exact Int32.toBitVec_inj.mp h
theorem q_bitOr {u ρ : Nat} (h : ρ < 12) : nI u ||| ((1 : Int32) <<< (nI ρ &&& 31)) = nI (u ||| 2 ^ ρ) := by
  have hp : 2 ^ ρ < 2 ^ 32 := Nat.pow_lt_pow_right (by omega) (by omega)
  have e : nI 1 <<< (nI ρ &&& 31) = nI (1 * 2 ^ ρ) := pk_shlN (nI ρ &&& 31) ρ (s_l31 ρ (by omega)) (by omega)
  have e2 : (1 : Int32) <<< (nI ρ &&& 31) = nI (1 * 2 ^ ρ) := e
  rw [e2, nI_or, Nat.one_mul]
theorem q_bitAt {u ρ : Nat} (hu : u < 4096) (h : ρ < 12) : ((nI u >>> (nI ρ &&& 31)) &&& (1 : Int32)) = nI (u / 2 ^ ρ % 2) := by
  rw [pk_shrN (by omega) (nI ρ &&& 31) ρ (s_l31 ρ (by omega))]
  exact pk_andN (m := 1) (by have := Nat.div_le_self u (2 ^ ρ); omega) 1 rfl
theorem q_free2 (i u : Nat) (a : CwS) (hu : u < 4096) : ∀ (f ρ0 : Nat), ρ0 + f = 13 → (∃ j, ρ0 ≤ j ∧ j < 12 ∧ u.testBit j = false) → ∃ ρ, ρ < 12 ∧ u.testBit ρ = false ∧ j_Pile_freeRow_L58 f i (nI u) (nI ρ0) a = some (nI ρ, a)
  | 0, ρ0, h, ⟨j, h1, h2, _⟩ => by omega
  | f + 1, ρ0, h, ⟨j, h1, h2, h3⟩ => by
    unfold j_Pile_freeRow_L58
    rw [if_neg (show ¬ (12 : Int32) ≤ nI ρ0 from nI_ge (b := 12) (by omega) (by omega)), q_bitAt hu (by omega)]
    cases e : u.testBit ρ0
    · rw [if_pos]
      · exact ⟨ρ0, by omega, e, rfl⟩
      · rw [Nat.testBit_eq_decide_div_mod_eq] at e
        have := of_decide_eq_false e
        rw [show u / 2 ^ ρ0 % 2 = 0 by omega]; rfl
    · rw [if_neg]
      · rw [nI_1]
        refine q_free2 i u a hu f (ρ0 + 1) (by omega) ⟨j, ?_, h2, h3⟩
        rcases Nat.lt_or_ge ρ0 j with g | g
        · exact g
        · have : j = ρ0 := by omega
          rw [this, e] at h3; cases h3
      · rw [Nat.testBit_eq_decide_div_mod_eq] at e
        have := of_decide_eq_true e
        rw [this]; decide
/-- which numbers rows below place p have -/
def usB (a : CwS) (i p u : Nat) : Prop := u < 4096 ∧ cnB 12 u ≤ p ∧ ∀ q, q < p → (gI a 17 i q = 1 ∨ gI a 17 i q = 2) → ∃ ρ, ρ < 12 ∧ gL a 6 i q = lN ρ ∧ u.testBit ρ = true
theorem usB.add {a : CwS} {i p u ρ : Nat} (h : usB a i p u) (hr : ρ < 12) (e : gL a 6 i p = lN ρ) : usB a i (p + 1) (u ||| 2 ^ ρ) := by
  obtain ⟨h1, h2, h3⟩ := h
  refine ⟨?_, ?_, fun q hq k => ?_⟩
  · exact Nat.or_lt_two_pow (n := 12) h1 (Nat.pow_lt_pow_right (by omega) hr)
  · have := cnB_or u ρ 12
    rw [if_pos hr] at this
    omega
  · by_cases z : q = p
    · subst z
      exact ⟨ρ, hr, e, by rw [Nat.testBit_or, Nat.testBit_two_pow]; simp⟩
    · obtain ⟨s, s1, s2, s3⟩ := h3 q (by omega) k
      exact ⟨s, s1, s2, by rw [Nat.testBit_or, s3]; rfl⟩
theorem usB.skip {a : CwS} {i p u : Nat} (h : usB a i p u) (e : ¬ gI a 17 i p = 1) (e2 : ¬ gI a 17 i p = 2) : usB a i (p + 1) u := by
  obtain ⟨h1, h2, h3⟩ := h
  refine ⟨h1, by omega, fun q hq k => ?_⟩
  by_cases z : q = p
  · subst z
    rcases k with k | k
    · exact absurd k e
    · exact absurd k e2
  · exact h3 q (by omega) k
theorem q_free1 {a b : CwS} {i base h : Nat} (hh : gI a 18 i 0 = nI h) (h12 : h < 12) (pr : pR a b i base h) : ∀ (f p u : Nat), p + f = 13 → p ≤ h → usB a i p u → ∃ u', usB a i h u' ∧ j_Pile_freeRow_L4 f i (nI u) (nI p) a = j_Pile_freeRow_L58 13 i (nI u') 0 a
  | 0, p, u, h1, h2, _ => by omega
  | f + 1, p, u, h1, h2, g => by
    unfold j_Pile_freeRow_L4
    rw [hh]
    by_cases z : p = h
    · subst z
      rw [if_pos (nI_le (Nat.le_refl _) (by omega))]
      exact ⟨u, g, rfl⟩
    · rw [if_neg (nI_ge (by omega) (by omega)), if_neg (show ¬ (12 : Int32) ≤ nI p from nI_ge (b := 12) (by omega) (by omega)), ckn (by omega) (by omega), nI_clamp (by omega), nI_1]
      have v := (pr.1 p (by omega)).2
      by_cases k1 : gI a 17 i p = 1
      · rw [if_pos k1, ckn (by omega) (by omega)]
        rcases v with ⟨k, _⟩ | ⟨_, ρ, α, m, s1, s2, _⟩
        · rw [k1] at k; rcases k with k | k <;> exact absurd k (by decide)
        · rw [s2, lN_i, q_bitOr s1]
          exact q_free1 hh h12 pr f (p + 1) _ (by omega) (by omega) (g.add s1 s2)
      · rw [if_neg k1, ckn (by omega) (by omega)]
        by_cases k2 : gI a 17 i p = 2
        · rw [if_pos k2, ckn (by omega) (by omega)]
          rcases v with ⟨k, _⟩ | ⟨_, ρ, α, m, s1, s2, _⟩
          · rw [k2] at k; rcases k with k | k <;> exact absurd k (by decide)
          · rw [s2, lN_i, q_bitOr s1]
            exact q_free1 hh h12 pr f (p + 1) _ (by omega) (by omega) (g.add s1 s2)
        · rw [if_neg k2]
          exact q_free1 hh h12 pr f (p + 1) _ (by omega) (by omega) (g.skip k1 k2)
theorem q_free {a b : CwS} {i base h : Nat} (hh : gI a 18 i 0 = nI h) (h12 : h < 12) (pr : pR a b i base h) : ∃ ρ, ρ < 12 ∧ j_Pile_freeRow i a = some (nI ρ, a) ∧ ∀ q, q < h → (gI a 17 i q = 1 ∨ gI a 17 i q = 2) → gL a 6 i q ≠ lN ρ := by
  obtain ⟨u, ⟨u1, u2, u3⟩, e⟩ := q_free1 hh h12 pr 13 0 0 rfl (Nat.zero_le _) ⟨by omega, by decide, fun q hq => by omega⟩
  obtain ⟨j, j1, j2⟩ := cnB_free (u := u) (by omega)
  obtain ⟨ρ, r1, r2, r3⟩ := q_free2 i u a u1 13 0 rfl ⟨j, Nat.zero_le _, j1, j2⟩
  refine ⟨ρ, r1, ?_, fun q hq k z => ?_⟩
  · unfold j_Pile_freeRow
    exact e.trans r3
  · obtain ⟨s, s1, s2, s3⟩ := u3 q hq k
    rw [s2, lN_eq (by omega) (by omega)] at z
    rw [z, r2] at s3
    cases s3
