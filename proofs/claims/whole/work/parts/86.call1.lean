-- PURE: what a call reads: its number, who is under way
theorem idx (x : Int32) : (x < 0 ∧ (x >>> ((3 : Int32) &&& 31)) < 0) ∨ ∃ X : Nat, X < 2 ^ 31 ∧ ¬ x < 0 ∧ x / 8 = nI (X / 8) ∧ x - x / 8 * 8 = nI (X % 8) ∧ x >>> ((3 : Int32) &&& 31) = nI (X / 8) ∧ x &&& 7 = nI (X % 8) := by
  by_cases h : x < 0
  · left
    refine ⟨h, ?_⟩
    have e := pk_shr x ((3 : Int32) &&& 31) 3 (by decide)
    rw [Int32.lt_iff_toInt_lt] at h ⊢
    rw [e, Int.shiftRight_eq_div_pow]
    have z : (0 : Int32).toInt = 0 := rfl
    omega
  · right
    obtain ⟨X, hX, rfl⟩ := nI_of h
    have d : nI X / 8 = nI (X / 8) := by
      apply Int32.toInt_inj.mp
      rw [Int32.toInt_div_of_ne_right _ _ (by decide), nI_toInt hX, nI_toInt (by omega), show (8 : Int32).toInt = 8 from rfl, Int.tdiv_eq_ediv_of_nonneg (by omega)]
      omega
    have e8 : nI (X / 8) * 8 = nI (8 * (X / 8)) := by
      have := (Int32.ofNat_mul (X / 8) 8).symm
      rw [Nat.mul_comm] at this
      exact this
    refine ⟨X, hX, h, d, ?_, pk_shrN hX _ 3 (by decide), pk_andN (by omega) 3 rfl⟩
    rw [d, e8, nI_sub (by omega), show X - 8 * (X / 8) = X % 8 by omega]
theorem q_under {a : CwS} {i C : Nat} (hd : gI a 8 0 0 = nI (i + 1)) (hi : i < 10) (hC : C < 8) : ∀ (f j : Nat), j + f = 11 → j ≤ i + 1 → (∃ j', j ≤ j' ∧ j' < i + 1 ∧ gI a 13 j' 0 = nI C) ∧ j_Walk_isUnderWay_L2 f (nI C) (nI j) a = some (1, a) ∨ (¬ ∃ j', j ≤ j' ∧ j' < i + 1 ∧ gI a 13 j' 0 = nI C) ∧ j_Walk_isUnderWay_L2 f (nI C) (nI j) a = some (0, a)
  | 0, j, h1, h2 => by omega
  | f + 1, j, h1, h2 => by
    unfold j_Walk_isUnderWay_L2
    rw [hd]
    by_cases z : i + 1 ≤ j
    · rw [if_pos (nI_le z (by omega))]
      exact Or.inr ⟨fun ⟨j', g1, g2, _⟩ => by omega, rfl⟩
    · rw [if_neg (nI_ge (by omega) (by omega)), if_neg (show ¬ (10 : Int32) ≤ nI j from nI_ge (b := 10) (by omega) (by omega)), ckn (by omega) (by omega), nI_clamp (by omega), nI_1]
      by_cases w : gI a 13 j 0 = nI C
      · rw [if_pos w]
        exact Or.inl ⟨⟨j, Nat.le_refl _, by omega, w⟩, rfl⟩
      · rw [if_neg w]
        rcases q_under hd hi hC f (j + 1) (by omega) (by omega) with ⟨⟨j', g1, g2, g3⟩, e⟩ | ⟨g, e⟩
        · exact Or.inl ⟨⟨j', by omega, g2, g3⟩, e⟩
        · refine Or.inr ⟨fun ⟨j', g1, g2, g3⟩ => g ⟨j', ?_, g2, g3⟩, e⟩
          rcases Nat.lt_or_ge j j' with y | y
          · exact y
          · exact absurd (by rw [show j = j' by omega]; exact g3) w
variable {a b : CwS} {i base T F S c bb n hn h H : Nat} (RAN : Nat → Int64 → CwS → Option (Int32 × CwS))
theorem Rel.under (r : Rel a b i base T F S c bb n hn h H) {C : Nat} (hC : C < 8) : (j_Walk_isUnderWay (nI C) a = some (1, a) ∧ ¬ gI b 4 0 C ≤ 0) ∨ (j_Walk_isUnderWay (nI C) a = some (0, a) ∧ gI b 4 0 C ≤ 0) := by
  obtain ⟨d1, d2, d3⟩ := r.dep
  have i9 : i < 10 := r.hp.1
  obtain ⟨u, hu, e, iff⟩ := d3 C hC
  unfold j_Walk_isUnderWay
  rw [e]
  rcases q_under d1 i9 hC 11 0 rfl (Nat.zero_le _) with ⟨⟨j, g1, g2, g3⟩, e2⟩ | ⟨g, e2⟩
  · exact Or.inl ⟨e2, nI_nle (iff.mpr ⟨j, g2, g3⟩) (by omega)⟩
  · refine Or.inr ⟨e2, ?_⟩
    have : u = 0 := by
      rcases Nat.eq_zero_or_pos u with z | z
      · exact z
      · obtain ⟨j, g2, g3⟩ := iff.mp z
        exact absurd ⟨j, Nat.zero_le _, g2, g3⟩ g
    rw [this]
    decide
/-- the tests ahead of a call: the same failure on both sides, or the call -/
theorem callT (r : Rel a b i base T F S c bb n hn h H) (hh : h + 2 < 13) (v : Int64) (ev : gL b 7 i h = v) (k0 : gI b 21 i h = 0) (k1 : gI b 21 i (h + 1) = 0) (x : Int32) : (∃ k, 0 < k ∧ k ≤ 20 ∧ j_Walk_callFailure (nI c) v x a = some (nI k, a) ∧ j_Mo_calls RAN i x (nI h) b = some (nI k, b)) ∨ (∃ X C B, C < 8 ∧ B < 6 ∧ i + 1 < 10 ∧ X < 2 ^ 31 ∧ x / 8 = nI C ∧ x - x / 8 * 8 = nI B ∧ j_Walk_callFailure (nI c) v x a = some (0, a) ∧ j_Mo_calls RAN i x (nI h) b = j_Mo_calls_L149 RAN i (nI h) v (nI C) (nI B) b) := by
  have f := r.fr
  have f3 : c < 8 := f.2.2.1
  obtain ⟨d1, d2, d3⟩ := r.dep
  have i9 : i < 10 := r.hp.1
  have gl : ∀ q, gI a 3 0 q = gI b 3 0 q := fun q => by rw [r.book.2]
  have bl : ∀ q, gL a 1 0 q = gL b 1 0 q := fun q => by rw [r.led.2.1]
  unfold j_Walk_callFailure j_Mo_calls
  simp only [nI_1, mNb (show h < 13 by omega), mNb (show h + 1 < 13 by omega), bR_s, k0, k1, if_true, i10, if_false, ckn (show h < 13 by omega) (show h < 2 ^ 31 by omega), nI_clamp (show h < 2 ^ 31 by omega), ev, f.2.1, ckn f3 (show c < 2 ^ 31 by omega), nI_clamp (show c < 2 ^ 31 by omega), bl]
  by_cases v0 : lg_cmp v 0 < 0
  · rw [if_pos v0, if_pos v0]
    exact Or.inl ⟨9, by omega, by omega, rfl, rfl⟩
  · rw [if_neg v0, if_neg v0]
    by_cases v1 : lg_cmp v (gL b 1 0 c) ≤ 0
    · rw [if_pos v1, if_pos v1, m_isIn7, bR_s]
      rcases idx x with ⟨x0, x1⟩ | ⟨X, hX, x0, x1, x2, x3, x4⟩
      · rw [if_pos x0, if_pos (show plX (x >>> ((3 : Int32) &&& 31)) 7 = 0 from if_pos x1)]
        exact Or.inl ⟨12, by omega, by omega, rfl, rfl⟩
      · rw [if_neg x0, p_isBehaviour, bR_s, x2, x1, x3, x4]
        by_cases c8 : X / 8 < 8
        · have pl : plX (nI (X / 8)) 7 = 1 := by
            unfold plX
            rw [if_neg (nI_pos (by omega)), if_neg (nI_nlt (by omega) (by omega))]
          rw [pl, if_neg i10.mp, if_neg (nI_pos (by omega)), if_neg (show ¬ (8 : Int32) ≤ nI (X / 8) from nI_ge (b := 8) c8 (by omega)), if_neg (nI_pos (by omega))]
          by_cases b6 : X % 8 < 6
          · rw [if_neg (show ¬ (6 : Int32) ≤ nI (X % 8) from nI_ge (b := 6) b6 (by omega)), if_neg i10.mp, if_pos (show nI (X % 8) < (6 : Int32) from nI_lt (b := 6) b6 (by omega)), ckn c8 (by omega), ckn c8 (by omega), ckn c8 (by omega), nI_clamp (by omega), gl]
            -- the last two tests
            have tail : ∀ (st : CwS), st = a → ((∃ k, 0 < k ∧ k ≤ 20 ∧ (if (gI st 8 0 0) < ((10 : Int32)) then bR (j_Ledger_canMove (nI c) (nI (X / 8)) v st) fun r12 st13 => if r12 = ((0 : Int32)) then some ((6 : Int32), st13) else some ((0 : Int32), st13) else some ((10 : Int32), st)) = some (nI k, a) ∧ j_Mo_calls_L108 RAN i (nI h) v (nI (X / 8)) (nI (X % 8)) b = some (nI k, b)) ∨ (i + 1 < 10 ∧ (if (gI st 8 0 0) < ((10 : Int32)) then bR (j_Ledger_canMove (nI c) (nI (X / 8)) v st) fun r12 st13 => if r12 = ((0 : Int32)) then some ((6 : Int32), st13) else some ((0 : Int32), st13) else some ((10 : Int32), st)) = some (0, a) ∧ j_Mo_calls_L108 RAN i (nI h) v (nI (X / 8)) (nI (X % 8)) b = j_Mo_calls_L149 RAN i (nI h) v (nI (X / 8)) (nI (X % 8)) b)) := by
              rintro st rfl
              unfold j_Mo_calls_L108 j_Ledger_canMove
              rw [d1, d2, f.2.1]
              by_cases d10 : i + 1 = 10
              · rw [if_neg (show ¬ nI (i + 1) < (10 : Int32) from nI_nlt (b := 10) (by omega) (by omega)), if_pos (show nI (i + 1) = (10 : Int32) from by rw [d10]; rfl)]
                exact Or.inl ⟨10, by omega, by omega, rfl, rfl⟩
              · rw [if_pos (show nI (i + 1) < (10 : Int32) from nI_lt (b := 10) (by omega) (by omega)), if_neg (show ¬ nI (i + 1) = (10 : Int32) from fun z => d10 ((nI_eq (b := 10) (by omega) (by omega)).mp z))]
                by_cases cc : nI c = nI (X / 8)
                · rw [if_pos cc, if_pos cc.symm, bR_s, if_neg i10.mp]
                  exact Or.inr ⟨by omega, rfl, rfl⟩
                · rw [if_neg cc, if_neg (show ¬ nI (X / 8) = nI c from fun z => cc z.symm), ckn c8 (by omega), ckn c8 (by omega), nI_clamp (by omega), bl]
                  by_cases w : lg_cmp (gL b 1 0 (X / 8)) (9223372036854775807 - v) ≤ 0
                  · rw [if_pos w, if_neg (show ¬ 0 < lg_cmp (gL b 1 0 (X / 8)) (9223372036854775807 - v) from by rw [lg_cmp_le] at w; rw [lg_cmp_gt]; exact Int64.not_lt.mpr w), bR_s, if_neg i10.mp]
                    exact Or.inr ⟨by omega, rfl, rfl⟩
                  · rw [if_neg w, if_pos (show 0 < lg_cmp (gL b 1 0 (X / 8)) (9223372036854775807 - v) from by rw [lg_cmp_le] at w; rw [lg_cmp_gt]; exact Int64.not_le.mp w), bR_s, if_pos rfl]
                    exact Or.inl ⟨6, by omega, by omega, rfl, rfl⟩
            by_cases g0 : gI b 3 0 (X / 8) = 0
            · rw [if_pos g0, if_pos g0]
              rcases tail a rfl with ⟨k, t1, t2, t3, t4⟩ | ⟨t1, t2, t3⟩
              · exact Or.inl ⟨k, t1, t2, t3, t4⟩
              · exact Or.inr ⟨X, X / 8, X % 8, c8, b6, t1, hX, rfl, rfl, t2, t3⟩
            · rw [if_neg g0, if_neg g0]
              rcases r.under c8 with ⟨u1, u2⟩ | ⟨u1, u2⟩
              · rw [u1, bR_s, if_neg i10.mp, if_neg u2]
                exact Or.inl ⟨8, by omega, by omega, rfl, rfl⟩
              · rw [u1, bR_s, if_pos rfl, if_pos u2]
                rcases tail a rfl with ⟨k, t1, t2, t3, t4⟩ | ⟨t1, t2, t3⟩
                · exact Or.inl ⟨k, t1, t2, t3, t4⟩
                · exact Or.inr ⟨X, X / 8, X % 8, c8, b6, t1, hX, rfl, rfl, t2, t3⟩
          · rw [if_pos (show (6 : Int32) ≤ nI (X % 8) from nI_le (a := 6) (by omega) (by omega)), if_pos rfl, if_neg (show ¬ nI (X % 8) < (6 : Int32) from nI_nlt (b := 6) (by omega) (by omega))]
            exact Or.inl ⟨12, by omega, by omega, rfl, rfl⟩
        · have pl : plX (nI (X / 8)) 7 = 0 := by
            unfold plX
            rw [if_neg (nI_pos (by omega)), if_pos (nI_lt (by omega) (by omega))]
          rw [pl, if_pos rfl, if_neg (nI_pos (by omega)), if_pos (show (8 : Int32) ≤ nI (X / 8) from nI_le (a := 8) (by omega) (by omega)), if_pos rfl]
          exact Or.inl ⟨12, by omega, by omega, rfl, rfl⟩
    · rw [if_neg v1, if_neg v1]
      exact Or.inl ⟨9, by omega, by omega, rfl, rfl⟩
