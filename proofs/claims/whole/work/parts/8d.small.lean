-- PURE: the other methods
theorem RoomR.refl (b : CwS) : RoomR b b := ⟨Nat.le_refl _, by omega, by omega⟩
/-- one call of both objects: the same answer -/
def Eq0 {α : Type} (b : CwS) (x y : Option (α × CwS)) : Prop := ∃ (k : α) (a' b' : CwS), x = some (k, a') ∧ y = some (k, b') ∧ Rel0 a' b' ∧ RoomR b b'
theorem Eq0.same {α : Type} {a b : CwS} (r : Rel0 a b) (k : α) : Eq0 b (some (k, a)) (some (k, sI b 6 0 0 0)) := ⟨k, a, sI b 6 0 0 0, rfl, rfl, r, RoomR.refl b⟩
def bhX (x y : Int32) : Int32 := if x < 0 then 0 else if (8 : Int32) ≤ x then 0 else if y < 0 then 0 else if (6 : Int32) ≤ y then 0 else 1
def ctX (x : Int32) : Int32 := if x < 0 then 0 else if (8 : Int32) ≤ x then 0 else 1
theorem q_lt7 {x : Int32} : (7 : Int32) < x ↔ (8 : Int32) ≤ x := by
  constructor <;> intro h <;> grind
theorem q_lt5 {x : Int32} : (5 : Int32) < x ↔ (6 : Int32) ≤ x := by
  constructor <;> intro h <;> grind
theorem m_ct (x : Int32) (b : CwS) : j_Mo_isContract x b = some (ctX x, sI b 6 0 0 0) := by
  unfold j_Mo_isContract ctX
  rw [m_isIn, bR_s]
  by_cases h0 : x < 0
  · simp only [h0, if_true]; rfl
  · by_cases h1 : (8 : Int32) ≤ x
    · simp only [h0, h1, q_lt7.mpr h1, if_true, if_false]; rfl
    · have h2 : ¬ (7 : Int32) < x := fun z => h1 (q_lt7.mp z)
      simp only [h0, h1, h2, if_false]; rfl
theorem m_bh (x y : Int32) (b : CwS) : j_Mo_isBehaviour x y b = some (bhX x y, sI b 6 0 0 0) := by
  unfold j_Mo_isBehaviour bhX
  rw [m_ct, bR_s]
  unfold ctX
  by_cases h0 : x < 0
  · simp only [h0, if_true]
  · by_cases h1 : (8 : Int32) ≤ x
    · simp only [h0, h1, if_true, if_false]
    · simp only [h0, h1, if_false, i10]
      rw [m_isIn, bR_s]
      by_cases h2 : y < 0
      · simp only [h2, if_true]
      · by_cases h3 : (6 : Int32) ≤ y
        · simp only [h2, h3, q_lt5.mpr h3, if_true, if_false]
        · have h4 : ¬ (5 : Int32) < y := fun z => h3 (q_lt5.mp z)
          simp only [h2, h3, h4, if_false, i10]
theorem bhC (x y : Int32) : bhX x y = 0 ∨ ∃ C B, C < 8 ∧ B < 6 ∧ x = nI C ∧ y = nI B ∧ bhX x y = 1 := by
  unfold bhX
  by_cases h0 : x < 0
  · exact Or.inl (if_pos h0)
  · by_cases h1 : (8 : Int32) ≤ x
    · left; rw [if_neg h0, if_pos h1]
    · by_cases h2 : y < 0
      · left; rw [if_neg h0, if_neg h1, if_pos h2]
      · by_cases h3 : (6 : Int32) ≤ y
        · left; rw [if_neg h0, if_neg h1, if_neg h2, if_pos h3]
        · right
          obtain ⟨C, hC, e1⟩ := inNat x 8 (by omega) h0 h1
          obtain ⟨B, hB, e2⟩ := inNat y 6 (by omega) h2 h3
          exact ⟨C, B, hC, hB, e1, e2, by rw [if_neg h0, if_neg h1, if_neg h2, if_neg h3]⟩
theorem ctC (x : Int32) : ctX x = 0 ∨ ∃ C, C < 8 ∧ x = nI C ∧ ctX x = 1 := by
  unfold ctX
  by_cases h0 : x < 0
  · exact Or.inl (if_pos h0)
  · by_cases h1 : (8 : Int32) ≤ x
    · left; rw [if_neg h0, if_pos h1]
    · right
      obtain ⟨C, hC, e1⟩ := inNat x 8 (by omega) h0 h1
      exact ⟨C, hC, e1, by rw [if_neg h0, if_neg h1]⟩
theorem p_bh (x y : Int32) (a : CwS) : j_CW_isBehaviour x y a = some (bhX x y, a) := p_isBehaviour x y a
theorem p_ct (x : Int32) (a : CwS) : j_CW_isContract x a = some (ctX x, a) := p_isContract x a
theorem p_lf (x : Int32) (a : CwS) : j_CW_isLeaf x a = some (ctX x, a) := p_isLeaf x a
theorem m_isIn7' (x : Int32) (b : CwS) : j_Mo_isIn x 0 7 b = some (ctX x, b) := by
  rw [m_isIn]
  unfold ctX
  by_cases h0 : x < 0
  · simp only [h0, if_true]
  · by_cases h1 : (8 : Int32) ≤ x
    · simp only [h0, h1, q_lt7.mpr h1, if_true, if_false]
    · have h2 : ¬ (7 : Int32) < x := fun z => h1 (q_lt7.mp z)
      simp only [h0, h1, h2, if_false]
theorem q_find {C B : Nat} (C8 : C < 8) (B6 : B < 6) (a : CwS) : j_Book_find (nI C) (nI B) a = some (6 * C + B, a) := by
  unfold j_Book_find
  rw [nI_m6, ckn (by omega) (by omega), nI_clamp (by omega)]
variable {a b : CwS}
theorem e_run (r : Rel0 a b) (x1 x2 : Int32) (x3 : Int64) (x5 : Int32) : Eq0 b (j_CW_run x1 x2 x3 x5 a) (j_Mo_run x1 x2 x3 x5 b) := by
  unfold j_CW_run
  rw [mRun_eq, p_bh, m_bh, bR_s, bR_s]
  rcases bhC x1 x2 with e | ⟨C, B, C8, B6, rfl, rfl, e⟩
  · rw [e, if_pos rfl, if_pos rfl]
    exact Eq0.same r _
  · rw [e, if_neg i10.mp, if_neg i10.mp, m_isIn, bR_s]
    by_cases h0 : x5 < 0
    · simp only [h0, if_true]
      exact Eq0.same r _
    · by_cases h1 : x5 ≤ 600
      · have h2 : ¬ (600 : Int32) < x5 := by grind
        have h3 : ¬ (601 : Int32) ≤ x5 := by grind
        obtain ⟨L, hL, rfl⟩ := inNat x5 601 (by omega) h0 h3
        simp only [h0, h1, h2, if_true, if_false, i10, bV_id]
        obtain ⟨k, a', b', g1, g2, g3, g4⟩ := run_go (b := sI b 6 0 0 0) r C8 B6 (show L ≤ 600 by omega) x3
        exact ⟨k, a', b', g1, g2, g3, g4⟩
      · have h2 : (600 : Int32) < x5 := by grind
        simp only [h0, h1, h2, if_true, if_false]
        exact Eq0.same r _
theorem e_given (r : Rel0 a b) : Eq0 b (j_CW_given a) (j_Mo_given b) := by
  unfold j_CW_given j_Mo_given
  rw [r.2.2.2.1]
  exact Eq0.same r _
theorem e_events (r : Rel0 a b) : Eq0 b (j_CW_events a) (j_Mo_events b) := by
  obtain ⟨_, ⟨_, _, _, _, e, _, l6, l7⟩, _⟩ := id r
  unfold j_CW_events j_Mo_events
  have l7' : gI (sI b 6 0 0 0) 7 0 0 = nI e := l7
  rw [l6, l7']
  exact Eq0.same r _
theorem e_balance (r : Rel0 a b) (x : Int32) : Eq0 b (j_CW_balance x a) (j_Mo_balance x b) := by
  unfold j_CW_balance j_Mo_balance
  rw [p_ct, m_ct, bR_s, bR_s]
  rcases ctC x with e | ⟨C, C8, rfl, e⟩
  · rw [e, if_pos rfl, if_pos rfl]
    exact Eq0.same r _
  · rw [e, if_neg i10.mp, if_neg i10.mp, ckn C8 (by omega), ckn C8 (by omega), nI_clamp (by omega), r.2.1.2.1]
    exact Eq0.same r _
theorem e_leaf (r : Rel0 a b) (x y : Int32) : Eq0 b (j_CW_leaf x y a) (j_Mo_leaf x y b) := by
  unfold j_CW_leaf j_Mo_leaf
  rw [p_ct, m_ct, bR_s, bR_s]
  rcases ctC x with e | ⟨C, C8, rfl, e⟩
  · rw [e, if_pos rfl, if_pos rfl]
    exact Eq0.same r _
  · rw [e, if_neg i10.mp, if_neg i10.mp, p_lf, m_isIn7', bR_s, bR_s]
    rcases ctC y with e | ⟨k, k8, rfl, e⟩
    · rw [e, if_pos rfl, if_pos rfl]
      exact Eq0.same r _
    · rw [e, if_neg i10.mp, if_neg i10.mp, nI_m8, nI_8m, ckn (by omega) (by omega), ckn (by omega) (by omega), nI_clamp (by omega), r.2.1.1]
      exact Eq0.same r _
theorem e_told (r : Rel0 a b) (x : Int32) : Eq0 b (j_CW_told x a) (j_Mo_told x b) := by
  obtain ⟨c0, c1, c2, c3, c4⟩ := r.2.2.1
  unfold j_CW_told j_Mo_told
  by_cases h0 : x < 0
  · have n : ∀ k : Nat, k < 5 → ¬ x = nI k := fun k hk z => by rw [z] at h0; exact nI_pos (by omega) h0
    rw [if_pos h0, if_neg (show ¬ x = (0 : Int32) from n 0 (by omega)), if_neg (show ¬ x = (1 : Int32) from n 1 (by omega)), if_neg (show ¬ x = (2 : Int32) from n 2 (by omega)), if_neg (show ¬ x = (3 : Int32) from n 3 (by omega)), if_neg (show ¬ x = (4 : Int32) from n 4 (by omega))]
    exact Eq0.same r _
  · by_cases h1 : (5 : Int32) ≤ x
    · have n : ∀ k : Nat, k < 5 → ¬ x = nI k := fun k hk z => by rw [z] at h1; exact nI_ge (b := 5) hk (by omega) h1
      rw [if_neg h0, if_pos h1, if_neg (show ¬ x = (0 : Int32) from n 0 (by omega)), if_neg (show ¬ x = (1 : Int32) from n 1 (by omega)), if_neg (show ¬ x = (2 : Int32) from n 2 (by omega)), if_neg (show ¬ x = (3 : Int32) from n 3 (by omega)), if_neg (show ¬ x = (4 : Int32) from n 4 (by omega))]
      exact Eq0.same r _
    · obtain ⟨k, hk, rfl⟩ := inNat x 5 (by omega) h0 h1
      rw [if_neg h0, if_neg h1, ckn hk (by omega), nI_clamp (by omega)]
      match k, hk with
      | 0, _ => rw [if_pos (show nI 0 = (0 : Int32) from rfl), c0]; exact Eq0.same r _
      | 1, _ => rw [if_neg (by decide), if_pos (show nI 1 = (1 : Int32) from rfl), c1]; exact Eq0.same r _
      | 2, _ => rw [if_neg (by decide), if_neg (by decide), if_pos (show nI 2 = (2 : Int32) from rfl), c2]; exact Eq0.same r _
      | 3, _ => rw [if_neg (by decide), if_neg (by decide), if_neg (by decide), if_pos (show nI 3 = (3 : Int32) from rfl), c3]; exact Eq0.same r _
      | 4, _ => rw [if_neg (by decide), if_neg (by decide), if_neg (by decide), if_neg (by decide), if_pos (show nI 4 = (4 : Int32) from rfl), c4]; exact Eq0.same r _
      | k + 5, z => omega
/-- an event that is there -/
theorem evC (r : Rel0 a b) (x : Int32) (st : CwS) (hs : gI st 7 0 0 = gI b 7 0 0) : ∃ ok : Int32, j_Ledger_hasEvent x a = some (ok, a) ∧ j_Mo_isIn x 0 (gI st 7 0 0 - 1) st = some (ok, st) ∧ (ok = 0 ∨ ok = 1 ∧ ∃ k, k < 40 ∧ x = nI k) := by
  obtain ⟨_, _, _, _, e, l5, l6, l7⟩ := r.2.1
  unfold j_Ledger_hasEvent
  rw [m_isIn, hs, l6, l7]
  by_cases h0 : x < 0
  · rw [if_pos h0, if_pos h0]
    exact ⟨0, rfl, rfl, Or.inl rfl⟩
  · rw [if_neg h0, if_neg h0]
    obtain ⟨k, hk, rfl⟩ := nI_of h0
    cases e with
    | zero =>
      have z : nI 0 - 1 < nI k := by
        rw [Int32.lt_iff_toInt_lt, nI_toInt hk, show (nI 0 - 1).toInt = -1 from rfl]
        omega
      rw [if_pos (nI_le (Nat.zero_le _) hk), if_pos z]
      exact ⟨0, rfl, rfl, Or.inl rfl⟩
    | succ e =>
      rw [nI_pred]
      by_cases z : e + 1 ≤ k
      · rw [if_pos (nI_le z hk), if_pos (nI_lt (by omega) hk)]
        exact ⟨0, rfl, rfl, Or.inl rfl⟩
      · rw [if_neg (nI_ge (by omega) (by omega)), if_neg (nI_nlt (by omega) (by omega))]
        exact ⟨1, rfl, rfl, Or.inr ⟨rfl, k, by omega, rfl⟩⟩
theorem e_event (r : Rel0 a b) (x y : Int32) : Eq0 b (j_CW_event x y a) (j_Mo_event x y b) := by
  obtain ⟨ok, e1, e2, w⟩ := evC r x (sI b 6 0 0 0) rfl
  unfold j_CW_event j_Mo_event
  rw [e1, e2, bR_s, bR_s]
  rcases w with rfl | ⟨rfl, k, hk, rfl⟩
  · rw [if_pos rfl, if_pos rfl]
    exact Eq0.same r _
  · rw [if_neg i10.mp, if_neg i10.mp]
    by_cases h : y = 0
    · rw [if_pos h, if_pos h, ckn hk (by omega), ckn hk (by omega), nI_clamp (by omega), r.2.1.2.2.1]
      exact Eq0.same r _
    · rw [if_neg h, if_neg h]
      exact Eq0.same r _
theorem e_guard (r : Rel0 a b) (x y : Int32) : Eq0 b (j_CW_guard x y a) (j_Mo_guard x y b) := by
  unfold j_CW_guard j_Mo_guard
  rw [p_ct, m_ct, bR_s, bR_s]
  rcases ctC x with e | ⟨C, C8, rfl, e⟩
  · rw [e, if_pos rfl, if_pos rfl]
    exact Eq0.same r _
  · have g0 : gI (sI b 6 0 0 0) 3 0 C = gI a 3 0 C := by
      show gI b 3 0 C = gI a 3 0 C
      rw [r.1.2]
    rw [e, if_neg i10.mp, if_neg i10.mp, ckn C8 (by omega), ckn C8 (by omega), ckn C8 (by omega), ckn C8 (by omega), nI_clamp (by omega), g0]
    have r2 : ∀ v, Rel0 (sI a 3 0 C v) (sI (sI b 6 0 0 0) 3 0 C v) := by
      intro v
      obtain ⟨⟨k1, k2⟩, r2, r3, r4, r5, r6⟩ := r
      refine ⟨⟨k1, ?_⟩, r2, r3, r4, r5, r6⟩
      rw [cw_updI, cw_updI]
      show upd (gI a 3 0) C v = upd (gI b 3 0) C v
      rw [k2]
    split
    · exact ⟨_, _, _, rfl, rfl, r2 _, RoomR.refl b⟩
    · exact ⟨_, _, _, rfl, rfl, r2 _, RoomR.refl b⟩
theorem e_fund (r : Rel0 a b) (x : Int32) (y : Int64) : Eq0 b (j_CW_fund x y a) (j_Mo_fund x y b) := by
  unfold j_CW_fund j_Mo_fund
  rw [p_ct, m_ct, bR_s, bR_s]
  rcases ctC x with e | ⟨C, C8, rfl, e⟩
  · rw [e, if_pos rfl, if_pos rfl]
    exact Eq0.same r _
  · rw [e, if_neg i10.mp, if_neg i10.mp, ckn C8 (by omega), ckn C8 (by omega), nI_clamp (by omega)]
    by_cases h : 0 ≤ lg_cmp y 0
    · rw [if_pos h, if_pos h]
      refine ⟨_, _, _, rfl, rfl, ?_, RoomR.refl b⟩
      obtain ⟨r1, ⟨l1, l2, l3⟩, r3, r4, r5, r6⟩ := r
      refine ⟨r1, ⟨l1, ?_, l3⟩, r3, r4, r5, r6⟩
      rw [cw_updL, cw_updL]
      show vp_updL (gL a 1 0) C y = vp_updL (gL b 1 0) C y
      rw [l2]
    · rw [if_neg h, if_neg h]
      exact Eq0.same r _
theorem e_empty (r : Rel0 a b) (x y : Int32) : Eq0 b (j_CW_empty x y a) (j_Mo_empty x y b) := by
  unfold j_CW_empty j_Mo_empty
  rw [p_bh, m_bh, bR_s, bR_s]
  rcases bhC x y with e | ⟨C, B, C8, B6, rfl, rfl, e⟩
  · rw [e, if_pos rfl, if_pos rfl]
    exact Eq0.same r _
  · obtain ⟨m, h1, h2, h3, h4⟩ := r.1.1 (6 * C + B) (by omega)
    have h3' : gI (sI b 6 0 0 0) 2 0 (6 * C + B) = nI m := h3
    rw [e, if_neg i10.mp, if_neg i10.mp, q_find C8 B6, bR_s, ck_t (decide_eq_true (by omega)), nI_6m, ckn (by omega) (by omega), ckn (by omega) (by omega), nI_clamp (by omega), h2, h3']
    refine ⟨_, _, _, rfl, rfl, ?_, RoomR.refl b⟩
    obtain ⟨⟨k1, k2⟩, r2, r3, r4, r5, r6⟩ := r
    refine ⟨⟨fun B' hB' => ?_, k2⟩, r2, r3, r4, r5, r6⟩
    obtain ⟨m', g1, g2, g3, g4⟩ := k1 B' hB'
    rw [gI_sI, gI_sI]
    by_cases z : B' = 6 * C + B
    · refine ⟨0, by omega, ?_, ?_, g4⟩
      · rw [if_pos ⟨rfl, z, rfl⟩]; rfl
      · rw [if_pos ⟨rfl, rfl, z⟩]; rfl
    · refine ⟨m', g1, ?_, ?_, g4⟩
      · rw [if_neg (by omega)]; exact g2
      · rw [if_neg (by omega)]; exact g3
theorem e_step (r : Rel0 a b) (x y u v : Int32) : Eq0 b (j_CW_step x y u v a) (j_Mo_step x y u v b) := by
  unfold j_CW_step j_Mo_step
  rw [p_bh, m_bh, bR_s, bR_s]
  rcases bhC x y with e | ⟨C, B, C8, B6, rfl, rfl, e⟩
  · rw [e, if_pos rfl, if_pos rfl]
    exact Eq0.same r _
  · obtain ⟨m, h1, h2, h3, h4⟩ := r.1.1 (6 * C + B) (by omega)
    have h3' : gI (sI b 6 0 0 0) 2 0 (6 * C + B) = nI m := h3
    rw [e, if_neg i10.mp, if_neg i10.mp, q_find C8 B6, bR_s, ck_t (decide_eq_true (by omega))]
    unfold j_Beh_append
    rw [nI_6m, ckn (by omega) (by omega), nI_clamp (by omega), h2, h3']
    by_cases m24 : m = 24
    · rw [if_neg (show ¬ nI m < (24 : Int32) from nI_nlt (b := 24) (by omega) (by omega)), if_pos (show nI m = (24 : Int32) from by rw [m24]; rfl), bR_s, if_pos rfl]
      exact Eq0.same r _
    · rw [if_pos (show nI m < (24 : Int32) from nI_lt (b := 24) (by omega) (by omega)), if_neg (show ¬ nI m = (24 : Int32) from fun z => m24 ((nI_eq (b := 24) (by omega) (by omega)).mp z)), nI_24m, nI_clamp (n := m) (by omega), nI_clamp (n := 24 * (6 * C + B) + m) (by omega)]
      have a1 : gI (sI a 0 (6 * C + B) m u) 2 (6 * C + B) 0 = nI m := h2
      have a2 : gI (sI (sI a 0 (6 * C + B) m u) 1 (6 * C + B) m v) 2 (6 * C + B) 0 = nI m := h2
      have b1 : gI (sI (sI b 6 0 0 0) 0 0 (24 * (6 * C + B) + m) u) 2 0 (6 * C + B) = nI m := h3
      have b2 : gI (sI (sI (sI b 6 0 0 0) 0 0 (24 * (6 * C + B) + m) u) 1 0 (24 * (6 * C + B) + m) v) 2 0 (6 * C + B) = nI m := h3
      rw [a1, b1, nI_24m, nI_clamp (n := m) (by omega), nI_clamp (n := 24 * (6 * C + B) + m) (by omega), a2, b2, nI_1, gI_self]
      simp only [ckn (show m < 24 by omega) (show m < 2 ^ 31 by omega), ckn (show 6 * C + B < 48 by omega) (show 6 * C + B < 2 ^ 31 by omega), ckn (show 24 * (6 * C + B) + m < 1152 by omega) (show 24 * (6 * C + B) + m < 2 ^ 31 by omega), bR_s, if_neg i10.mp, gI_self]
      refine ⟨_, _, _, rfl, rfl, ?_, RoomR.refl b⟩
      obtain ⟨⟨k1, k2⟩, r2, r3, r4, r5, r6⟩ := r
      refine ⟨⟨fun B' hB' => ?_, k2⟩, r2, r3, r4, r5, r6⟩
      obtain ⟨m', g1, g2, g3, g4⟩ := k1 B' hB'
      have codes : ∀ p, p < 24 → gI (sI a 0 (6 * C + B) m u) 0 B' p = gI (sI b 0 0 (24 * (6 * C + B) + m) u) 0 0 (24 * B' + p) ∧ gI (sI a 1 (6 * C + B) m v) 1 B' p = gI (sI b 1 0 (24 * (6 * C + B) + m) v) 1 0 (24 * B' + p) := by
        intro p hp
        rw [gI_sI, gI_sI, gI_sI, gI_sI]
        by_cases z : B' = 6 * C + B ∧ p = m
        · rw [if_pos (by omega), if_pos (by omega), if_pos (by omega), if_pos (by omega)]
          exact ⟨rfl, rfl⟩
        · rw [if_neg (by omega), if_neg (by omega), if_neg (by omega), if_neg (by omega)]
          exact g4 p hp
      by_cases z : B' = 6 * C + B
      · refine ⟨m + 1, by omega, ?_, ?_, codes⟩
        · rw [gI_sI, if_pos ⟨rfl, z, rfl⟩]
        · rw [gI_sI, if_pos ⟨rfl, rfl, z⟩]
      · refine ⟨m', g1, ?_, ?_, codes⟩
        · rw [gI_sI, if_neg (by omega)]; exact g2
        · rw [gI_sI, if_neg (by omega)]; exact g3
/-- value: an event's number, or the throw -/
theorem e_value (r : Rel0 a b) (x : Int32) : (∃ k, k < 40 ∧ x = nI k ∧ j_Ledger_hasEvent x a = some (1, a) ∧ j_Mo_value x b = some (gL a 2 0 k, sI b 6 0 0 0)) ∨ (j_Ledger_hasEvent x a = some (0, a) ∧ j_Mo_value x b = some (0, sI b 6 0 0 1)) := by
  obtain ⟨ok, e1, e2, w⟩ := evC r x b rfl
  unfold j_Mo_value
  rw [e1, e2, bR_s]
  have g1 : gI (sI b 6 0 0 1) 6 0 0 = 1 := gI_self _ _ _ _ _
  have g0 : gI (sI b 6 0 0 0) 6 0 0 = 0 := gI_self _ _ _ _ _
  rcases w with rfl | ⟨rfl, k, hk, rfl⟩
  · right
    rw [if_pos rfl, g1, if_neg i10.mp]
    exact ⟨rfl, rfl⟩
  · left
    rw [if_neg i10.mp, g0, if_pos rfl, ckn hk (by omega), nI_clamp (by omega)]
    refine ⟨k, hk, rfl, rfl, ?_⟩
    have e : gL (sI b 6 0 0 0) 2 0 k = gL a 2 0 k := by
      show gL b 2 0 k = gL a 2 0 k
      rw [r.2.1.2.2.2.1]
    rw [e]
