-- PURE: codes 13, 14, 24, 25, 26, 28, 30, 31
variable {a b : CwS} {i base T F S c bb n hn h H : Nat} (RAN : Nat → Int64 → CwS → Option (Int32 × CwS))
theorem d_went {cd x x6 : Int32} (h0 : ¬ cd = 0) (h1 : ¬ cd = 1) (h2 : ¬ cd = 2) (h3 : ¬ cd = 3) (h4 : ¬ cd = 4) (h5 : ¬ cd = 5) (h6 : ¬ cd = 22) : j_Mo_done_L202 RAN i cd x x6 b = j_Mo_went RAN i cd x x6 b := by
  unfold j_Mo_done_L202
  rw [if_neg h0, if_neg h1, if_neg h2, if_neg h3, if_neg h4, if_neg h5, if_neg h6, bV_id]
/-- the place x in a behaviour of m steps -/
def plX (x : Int32) (m : Nat) : Int32 := if x < 0 then 0 else if nI m < x then 0 else 1
theorem plc (x : Int32) (m : Nat) (hm : m ≤ 24) : plX x m = 0 ∨ ∃ j, j ≤ m ∧ x = nI j ∧ plX x m = 1 := by
  unfold plX
  by_cases h0 : x < 0
  · exact Or.inl (if_pos h0)
  · by_cases h1 : nI m < x
    · exact Or.inl (by rw [if_neg h0, if_pos h1])
    · obtain ⟨j, hj, rfl⟩ := nI_of h0
      refine Or.inr ⟨j, ?_, rfl, by rw [if_neg h0, if_neg h1]⟩
      rcases Nat.lt_or_ge m j with z | z
      · exact absurd (nI_lt z hj) h1
      · exact z
theorem Rel.cntB (r : Rel a b i base T F S c bb n hn h H) : ∃ m, m ≤ 24 ∧ gI a 2 (6 * c + bb) 0 = nI m ∧ gI b 2 0 (6 * c + bb) = nI m ∧ ∀ p, p < 24 → gI a 0 (6 * c + bb) p = gI b 0 0 (24 * (6 * c + bb) + p) ∧ gI a 1 (6 * c + bb) p = gI b 1 0 (24 * (6 * c + bb) + p) := by
  have f := r.fr
  have f3 : c < 8 := f.2.2.1
  have f6 : bb < 6 := f.2.2.2.2.2.1
  exact r.book.1 (6 * c + bb) (by omega)
theorem m_isInP (x : Int32) (m : Nat) (b : CwS) : j_Mo_isIn x 0 (nI m) b = some (plX x m, b) := m_isIn x 0 (nI m) b
theorem m_isIn7 (x : Int32) (b : CwS) : j_Mo_isIn x 0 7 b = some (plX x 7, b) := m_isIn x 0 7 b
theorem p_hasPlaceP {j m : Nat} (x : Int32) {a : CwS} (e : gI a 2 j 0 = nI m) : j_Beh_hasPlace j x a = some (plX x m, a) := by
  rw [p_hasPlace, e]; rfl
variable {m : Nat} {x x6 : Int32}
theorem w_pre (r : Rel a b i base T F S c bb n hn h H) (e2 : gI b 2 0 (6 * c + bb) = nI m) {β : Type} (k : Int32 → CwS → Option β) : (ck (ix (6 * gI b 14 i 0 + gI b 16 i 0) 48) (bR (j_Mo_isIn x 0 (gI b 2 0 (6 * gI b 14 i 0 + gI b 16 i 0).toNatClampNeg) b) k)) = k (plX x m) b := by
  have f := r.fr
  have f3 : c < 8 := f.2.2.1
  have f6 : bb < 6 := f.2.2.2.2.2.1
  rw [f.2.1, f.2.2.2.2.1, nI_6m, ckn (by omega) (by omega), nI_clamp (by omega), e2, m_isInP, bR_s]
theorem w_13 (r : Rel a b i base T F S c bb n hn h H) (e2 : gI b 2 0 (6 * c + bb) = nI m) : j_Mo_went RAN i 13 x x6 b = (if plX x m = 0 then if plX x m = 0 then some (12, sI b 20 i 0 (gI b 20 i 0)) else some (0, sI b 20 i 0 (gI b 20 i 0)) else if plX x m = 0 then some (12, sI b 20 i 0 x) else some (0, sI b 20 i 0 x)) := by
  unfold j_Mo_went
  rw [w_pre r e2, if_pos rfl]
theorem w_14 (r : Rel a b i base T F S c bb n hn h H) (e2 : gI b 2 0 (6 * c + bb) = nI m) : j_Mo_went RAN i 14 x x6 b = (bR (j_MF_isNumber i x6 b) fun r8 st9 => if r8 = 0 then j_Mo_went_L151 RAN i x6 st9 else if plX x m = 0 then j_Mo_went_L151 RAN i x6 st9 else ck (ix x6 13) (if lg_cmp (gL st9 7 i x6.toNatClampNeg) 0 = 0 then some (0, sI st9 20 i 0 x) else some (0, sI st9 20 i 0 (gI st9 20 i 0)))) := by
  unfold j_Mo_went
  rw [w_pre r e2, if_neg (by decide), if_pos rfl]
theorem w_24 (r : Rel a b i base T F S c bb n hn h H) (e2 : gI b 2 0 (6 * c + bb) = nI m) : j_Mo_went RAN i 24 x x6 b = (if plX x m = 0 then some (12, b) else if gI b 19 i 0 = 4 then some (11, b) else if gI b 18 i 0 = 12 then some (11, b) else ck (ix (gI b 19 i 0) 4) (ck (ix (gI (sI b 22 i ((gI b 19 i 0).toNatClampNeg) x) 19 i 0) 4) (some (0, sI (sI (sI b 22 i ((gI b 19 i 0).toNatClampNeg) x) 23 i ((gI (sI b 22 i ((gI b 19 i 0).toNatClampNeg) x) 19 i 0).toNatClampNeg) (gI (sI b 22 i ((gI b 19 i 0).toNatClampNeg) x) 18 i 0)) 19 i 0 ((gI (sI (sI b 22 i ((gI b 19 i 0).toNatClampNeg) x) 23 i ((gI (sI b 22 i ((gI b 19 i 0).toNatClampNeg) x) 19 i 0).toNatClampNeg) (gI (sI b 22 i ((gI b 19 i 0).toNatClampNeg) x) 18 i 0)) 19 i 0) + 1))))) := by
  unfold j_Mo_went
  rw [w_pre r e2, if_neg (by decide), if_neg (by decide), if_pos rfl]
theorem w_25 (r : Rel a b i base T F S c bb n hn h H) (e2 : gI b 2 0 (6 * c + bb) = nI m) : j_Mo_went RAN i 25 x x6 b = (if gI b 19 i 0 = 0 then some (11, b) else some (0, sI b 19 i 0 (gI b 19 i 0 - 1))) := by
  unfold j_Mo_went
  rw [w_pre r e2, if_neg (by decide), if_neg (by decide), if_neg (by decide), if_pos rfl]
theorem w_26 (r : Rel a b i base T F S c bb n hn h H) (e2 : gI b 2 0 (6 * c + bb) = nI m) : j_Mo_went RAN i 26 x x6 b = (bR (j_Mo_isIn x 0 7 b) fun r25 st26 => if r25 = 0 then some (12, st26) else some (13 + x, st26)) := by
  unfold j_Mo_went
  rw [w_pre r e2, if_neg (by decide), if_neg (by decide), if_neg (by decide), if_neg (by decide), if_pos rfl]
theorem w_27 (r : Rel a b i base T F S c bb n hn h H) (e2 : gI b 2 0 (6 * c + bb) = nI m) : j_Mo_went RAN i 27 x x6 b = (bR (j_MF_isNumber i x6 b) fun r29 st30 => if r29 = 0 then bR (j_MF_isNumber i x6 (sL st30 4 i 0 0)) fun r33 st34 => if r33 = 0 then some (4, st34) else some (100, st34) else ck (ix x6 13) (bR (j_MF_isNumber i x6 (sL st30 4 i 0 (gL st30 7 i x6.toNatClampNeg))) fun r38 st39 => if r38 = 0 then some (4, st39) else some (100, st39))) := by
  unfold j_Mo_went
  rw [w_pre r e2, if_neg (by decide), if_neg (by decide), if_neg (by decide), if_neg (by decide), if_neg (by decide), if_pos rfl]
theorem w_28 (r : Rel a b i base T F S c bb n hn h H) (e2 : gI b 2 0 (6 * c + bb) = nI m) : j_Mo_went RAN i 28 x x6 b = (bR (j_MF_isNumber i x6 b) fun r42 st43 => if r42 = 0 then j_Mo_went_L356 RAN i x6 st43 else if gI st43 7 0 0 = 40 then j_Mo_went_L356 RAN i x6 st43 else ck (ix (gI st43 7 0 0) 40) (ck (ix x6 13) (ck (ix (gI (sI st43 5 0 ((gI st43 7 0 0).toNatClampNeg) (gI st43 14 i 0)) 7 0 0) 40) (some (0, sI (sL (sI st43 5 0 ((gI st43 7 0 0).toNatClampNeg) (gI st43 14 i 0)) 2 0 ((gI (sI st43 5 0 ((gI st43 7 0 0).toNatClampNeg) (gI st43 14 i 0)) 7 0 0).toNatClampNeg) (gL (sI st43 5 0 ((gI st43 7 0 0).toNatClampNeg) (gI st43 14 i 0)) 7 i x6.toNatClampNeg)) 7 0 0 ((gI (sL (sI st43 5 0 ((gI st43 7 0 0).toNatClampNeg) (gI st43 14 i 0)) 2 0 ((gI (sI st43 5 0 ((gI st43 7 0 0).toNatClampNeg) (gI st43 14 i 0)) 7 0 0).toNatClampNeg) (gL (sI st43 5 0 ((gI st43 7 0 0).toNatClampNeg) (gI st43 14 i 0)) 7 i x6.toNatClampNeg)) 7 0 0) + 1)))))) := by
  unfold j_Mo_went
  rw [w_pre r e2, if_neg (by decide), if_neg (by decide), if_neg (by decide), if_neg (by decide), if_neg (by decide), if_neg (by decide), if_pos rfl]
theorem w_29 (r : Rel a b i base T F S c bb n hn h H) (e2 : gI b 2 0 (6 * c + bb) = nI m) : j_Mo_went RAN i 29 x x6 b = j_Mo_calls RAN i x x6 b := by
  unfold j_Mo_went
  rw [w_pre r e2, if_neg (by decide), if_neg (by decide), if_neg (by decide), if_neg (by decide), if_neg (by decide), if_neg (by decide), if_neg (by decide), if_pos rfl, bV_id]
theorem w_30 (r : Rel a b i base T F S c bb n hn h H) (e2 : gI b 2 0 (6 * c + bb) = nI m) : j_Mo_went RAN i 30 x x6 b = (ck (ix (gI b 14 i 0) 8) (bV (j_MF_number i (gL b 1 0 ((gI b 14 i 0).toNatClampNeg)) b) fun st63 => some (0, st63))) := by
  unfold j_Mo_went
  rw [w_pre r e2, if_neg (by decide), if_neg (by decide), if_neg (by decide), if_neg (by decide), if_neg (by decide), if_neg (by decide), if_neg (by decide), if_neg (by decide), if_pos rfl]
theorem w_31 (r : Rel a b i base T F S c bb n hn h H) (e2 : gI b 2 0 (6 * c + bb) = nI m) : j_Mo_went RAN i 31 x x6 b = (bV (j_MF_number i ((gI b 15 i 0).toInt64) b) fun st59 => some (0, st59)) := by
  unfold j_Mo_went
  rw [w_pre r e2, if_neg (by decide), if_neg (by decide), if_neg (by decide), if_neg (by decide), if_neg (by decide), if_neg (by decide), if_neg (by decide), if_neg (by decide), if_neg (by decide)]
theorem c_jump (r : Rel a b i base T F S c bb n hn h H) {m : Nat} (hm : gI a 2 (6 * c + bb) 0 = nI m) (x : Int32) : j_Frame_jump i x a = if plX x m = 0 then some (12, a) else some (0, sI a 15 i 0 x) := by
  have f := r.fr
  have f3 : c < 8 := f.2.2.1
  have f6 : bb < 6 := f.2.2.2.2.2.1
  unfold j_Frame_jump
  rw [f.2.2.2.1, ck_t (decide_eq_true (by omega)), p_hasPlaceP x hm, bR_s]
theorem Rel.jump (r : Rel a b i base T F S c bb n hn h H) {j : Nat} (hj : j ≤ 24) : Rel (sI a 15 i 0 (nI j)) (sI b 20 i 0 (nI j)) i base T F S c bb j hn h H := by
  obtain ⟨r1, r2, r3, r4, r5, r6, r7, r8, r9, r10⟩ := r
  exact ⟨r1, r2, r3, r4, r5, ⟨by rw [gI_sI]; simp, by rw [gI_sI]; simp, hj⟩, r7, r8, r9, r10⟩
theorem gd_jump (r : Rel a b i base T F S c bb n hn h H) {j : Nat} (hj : j ≤ 24) : Good a b i base T F S c bb (some (0, sI a 15 i 0 (nI j))) (some (0, sI b 20 i 0 (nI j))) :=
  ⟨0, j, hn, h, _, _, rfl, rfl, by omega, (r.jump hj).low, (SameC.refl _ _).wI _ (by unfold cOkI; omega), (SameM.refl _ _ _).wI _ (by unfold mOkI; omega), rfl, Nat.le_succ _, Nat.le_add_right _ _⟩
theorem g_13 (r : Rel a b i base T F S c bb n hn h H) (x x6 : Int32) : Good a b i base T F S c bb (j_Frame_jump i x a) (j_Mo_done_L202 RAN i 13 x x6 b) := by
  obtain ⟨m, hm, e1, e2, _⟩ := r.cntB
  have f := r.fr
  have f3 : c < 8 := f.2.2.1
  have f6 : bb < 6 := f.2.2.2.2.2.1
  rw [d_went RAN (by decide) (by decide) (by decide) (by decide) (by decide) (by decide) (by decide), c_jump r e1]
  rw [w_13 RAN r e2, sI_self]
  rcases plc x m hm with e | ⟨j, hj, rfl, e⟩
  · rw [e, if_pos rfl, if_pos rfl, if_pos rfl]
    exact gd_fail 12 (by omega) r
  · rw [e, if_neg (by decide), if_neg (by decide), if_neg (by decide)]
    exact gd_jump r (by omega)
theorem g_14 (r : Rel a b i base T F S c bb n hn h (h + 1)) (hH : gI a 19 i 0 = nI (h + 1)) (x : Int32) : Good a b i base T F S c bb (j_Walk_jumpIfZero i x a) (j_Mo_done_L202 RAN i 14 x (nI h) b) := by
  obtain ⟨m, hm, e1, e2, _⟩ := r.cntB
  have f := r.fr
  have f3 : c < 8 := f.2.2.1
  have f6 : bb < 6 := f.2.2.2.2.2.1
  have q := r.hi
  have t0 : j_Pile_tookNumber i (0 : Int32) a = _ := tkB 0 h hH rfl q.2.2.2
  have t1 : j_Pile_took i (0 : Int32) a = _ := tkN 0 h hH rfl q.2.2.2
  rw [d_went RAN (by decide) (by decide) (by decide) (by decide) (by decide) (by decide) (by decide)]
  rw [w_14 RAN r e2]
  unfold j_Walk_jumpIfZero j_Mo_went_L151
  simp only [t0, mNb (show h < 13 by omega), r.kd h (by omega), bR_s, f.2.2.2.1, ck_t (decide_eq_true (show 6 * c + bb < 48 by omega)), p_hasPlaceP x e1, t1, c_jump r e1, ckn (show h < 13 by omega) (by omega), nI_clamp (show h < 2 ^ 31 by omega), sI_self, bV_id]
  by_cases k0 : gI a 17 i h = 0
  · rw [r.nm h (by omega) k0]
    rcases plc x m hm with e | ⟨j, hj, rfl, e⟩
    · simp only [k0, if_true, i10, if_false, e]
      exact gd_fail 12 (by omega) r
    · by_cases z : lg_cmp (gL a 6 i h) 0 = 0
      · simp only [k0, if_true, i10, if_false, e, z, bR_s]
        exact gd_jump r (by omega)
      · simp only [k0, if_true, i10, if_false, e, z, bR_s]
        exact gd_fail 0 (by omega) r
  · simp only [k0, if_true, i10, if_false]
    exact gd_fail 4 (by omega) r
theorem g_26 (r : Rel a b i base T F S c bb n hn h H) (x x6 : Int32) : Good a b i base T F S c bb (if x < 0 then some (12, a) else if (7 : Int32) < x then some (12, a) else some (13 + x, a)) (j_Mo_done_L202 RAN i 26 x x6 b) := by
  obtain ⟨m, hm, e1, e2, _⟩ := r.cntB
  have f := r.fr
  have f3 : c < 8 := f.2.2.1
  have f6 : bb < 6 := f.2.2.2.2.2.1
  rw [d_went RAN (by decide) (by decide) (by decide) (by decide) (by decide) (by decide) (by decide)]
  rw [w_26 RAN r e2, m_isIn, bR_s]
  by_cases h0 : x < 0
  · simp only [h0, if_true]
    exact gd_fail 12 (by omega) r
  · by_cases h1 : (7 : Int32) < x
    · simp only [h0, h1, if_true, if_false]
      exact gd_fail 12 (by omega) r
    · have h2 : ¬ (8 : Int32) ≤ x := by grind
      obtain ⟨j, hj, rfl⟩ := inNat x 8 (by omega) h0 h2
      simp only [h0, h1, if_false, i10]
      have e : (13 : Int32) + nI j = nI (13 + j) := nI_add 13 j
      rw [e]
      exact gd_fail (13 + j) (by omega) r
theorem g_30 (r : Rel a b i base T F S c bb n hn h H) (g : h < 12) (x x6 : Int32) : Good a b i base T F S c bb (ck (ix (gI a 13 i 0) 8) (j_Pile_putNumber i (gL a 1 0 ((gI a 13 i 0).toNatClampNeg)) a)) (j_Mo_done_L202 RAN i 30 x x6 b) := by
  obtain ⟨m, hm, e1, e2, _⟩ := r.cntB
  have f := r.fr
  have f3 : c < 8 := f.2.2.1
  have f6 : bb < 6 := f.2.2.2.2.2.1
  rw [d_went RAN (by decide) (by decide) (by decide) (by decide) (by decide) (by decide) (by decide)]
  rw [w_30 RAN r e2, f.1, f.2.1, ckn (by omega) (by omega), ckn (by omega) (by omega), nI_clamp (by omega), r.led.2.1]
  exact gd_put r g _
theorem g_31 (r : Rel a b i base T F S c bb n hn h H) (g : h < 12) (x x6 : Int32) : Good a b i base T F S c bb (j_Pile_putNumber i ((gI a 14 i 0).toInt64) a) (j_Mo_done_L202 RAN i 31 x x6 b) := by
  obtain ⟨m, hm, e1, e2, _⟩ := r.cntB
  have f := r.fr
  have f3 : c < 8 := f.2.2.1
  have f6 : bb < 6 := f.2.2.2.2.2.1
  rw [d_went RAN (by decide) (by decide) (by decide) (by decide) (by decide) (by decide) (by decide)]
  rw [w_31 RAN r e2, f.2.2.2.2.2.2.1]
  exact gd_put r g _
theorem g_24 (r : Rel a b i base T F S c bb n hn h H) (x x6 : Int32) : Good a b i base T F S c bb (j_Frame_addHandler i x a) (j_Mo_done_L202 RAN i 24 x x6 b) := by
  obtain ⟨m, hm, e1, e2, _⟩ := r.cntB
  have f := r.fr
  have f3 : c < 8 := f.2.2.1
  have f6 : bb < 6 := f.2.2.2.2.2.1
  have q := r.hi
  obtain ⟨u1, u2, u3, u4⟩ := r.han
  rw [d_went RAN (by decide) (by decide) (by decide) (by decide) (by decide) (by decide) (by decide)]
  rw [w_24 RAN r e2]
  unfold j_Frame_addHandler
  rw [f.2.2.2.1, ck_t (decide_eq_true (by omega)), p_hasPlaceP x e1, bR_s, u1, u2, q.1, q.2.1]
  rcases plc x m hm with e | ⟨j, hj, rfl, e⟩
  · rw [e, if_pos rfl, if_pos rfl]
    exact gd_fail 12 (by omega) r
  · simp only [e, i10, if_false]
    by_cases k4 : hn = 4
    · rw [if_pos (show (4 : Int32) ≤ nI hn from nI_le (a := 4) (by omega) (by omega)), if_pos (show nI hn = (4 : Int32) from by rw [k4]; rfl)]
      exact gd_fail 11 (by omega) r
    · rw [if_neg (show ¬ (4 : Int32) ≤ nI hn from nI_ge (b := 4) (by omega) (by omega)), if_neg (show ¬ nI hn = (4 : Int32) from fun z => k4 ((nI_eq (b := 4) (by omega) (by omega)).mp z))]
      by_cases k12 : h = 12
      · rw [if_neg (show ¬ nI h < (12 : Int32) from nI_nlt (b := 12) (by omega) (by omega)), if_pos (show nI h = (12 : Int32) from by rw [k12]; rfl)]
        exact gd_fail 11 (by omega) r
      · rw [if_pos (show nI h < (12 : Int32) from nI_lt (b := 12) (by omega) (by omega)), if_neg (show ¬ nI h = (12 : Int32) from fun z => k12 ((nI_eq (b := 12) (by omega) (by omega)).mp z)), ckn (by omega) (by omega), ckn (by omega) (by omega), nI_clamp (by omega)]
        have a1 : gI (sI a 10 i hn (nI j)) 12 i 0 = nI hn := u1
        have b1 : gI (sI b 22 i hn (nI j)) 19 i 0 = nI hn := u2
        have a2 : gI (sI a 10 i hn (nI j)) 18 i 0 = nI h := q.1
        have b2 : gI (sI b 22 i hn (nI j)) 18 i 0 = nI h := q.2.1
        have a3 : gI (sI (sI a 10 i hn (nI j)) 11 i hn (nI h)) 12 i 0 = nI hn := u1
        have b3 : gI (sI (sI b 22 i hn (nI j)) 23 i hn (nI h)) 19 i 0 = nI hn := u2
        rw [a1, b1, a2, b2, nI_clamp (by omega), a3, b3, ckn (by omega) (by omega), ckn (by omega) (by omega), nI_1]
        obtain ⟨r1, r2, r3, r4, r5, r6, r7, r8, r9, r10⟩ := r.low
        refine ⟨0, n, hn + 1, h, _, _, rfl, rfl, by omega, ⟨r1, r2, r3, r4, r5, r6, ⟨by rw [gI_sI]; simp, by rw [gI_sI]; simp, by omega, fun k hk => ?_⟩, r8, r9, r10⟩, (((SameC.refl _ _).wI _ (by unfold cOkI; omega)).wI _ (by unfold cOkI; omega)).wI _ (by unfold cOkI; omega), (((SameM.refl _ _ _).wI _ (by unfold mOkI; omega)).wI _ (by unfold mOkI; omega)).wI _ (by unfold mOkI; omega), rfl, Nat.le_succ _, Nat.le_add_right _ _⟩
        show ∃ s hh, gI (sI a 10 i hn (nI j)) 10 i k = nI s ∧ gI (sI b 22 i hn (nI j)) 22 i k = nI s ∧ s ≤ 24 ∧ gI (sI a 11 i hn (nI h)) 11 i k = nI hh ∧ gI (sI b 23 i hn (nI h)) 23 i k = nI hh ∧ hh < 12
        rw [gI_sI, gI_sI, gI_sI, gI_sI]
        by_cases z : k = hn
        · simp only [z, and_self, if_true]
          exact ⟨j, h, rfl, rfl, by omega, rfl, rfl, by omega⟩
        · simp only [z, and_false, if_false]
          exact u4 k (by omega)
theorem Rel.drop (r : Rel a b i base T F S c bb n (hn + 1) h H) : Rel (sI a 12 i 0 (nI hn)) (sI b 19 i 0 (nI hn)) i base T F S c bb n hn h H := by
  obtain ⟨r1, r2, r3, r4, r5, r6, ⟨u1, u2, u3, u4⟩, r8, r9, r10⟩ := r
  exact ⟨r1, r2, r3, r4, r5, r6, ⟨by rw [gI_sI]; simp, by rw [gI_sI]; simp, by omega, fun k hk => u4 k (by omega)⟩, r8, r9, r10⟩
theorem g_25 (r : Rel a b i base T F S c bb n hn h H) (x x6 : Int32) : Good a b i base T F S c bb (j_Frame_dropHandler i a) (j_Mo_done_L202 RAN i 25 x x6 b) := by
  obtain ⟨m, hm, e1, e2, _⟩ := r.cntB
  have f := r.fr
  have f3 : c < 8 := f.2.2.1
  have f6 : bb < 6 := f.2.2.2.2.2.1
  obtain ⟨u1, u2, u3, u4⟩ := r.han
  rw [d_went RAN (by decide) (by decide) (by decide) (by decide) (by decide) (by decide) (by decide)]
  rw [w_25 RAN r e2]
  unfold j_Frame_dropHandler
  rw [u1, u2]
  cases hn with
  | zero =>
    rw [if_neg (by decide), if_pos nI_0]
    exact gd_fail 11 (by omega) r
  | succ hn =>
    rw [if_pos (show (0 : Int32) < nI (hn + 1) from nI_lt (a := 0) (by omega) (by omega)), if_neg (nI_ne0 (by omega) (by omega)), nI_pred]
    exact ⟨0, n, hn, h, _, _, rfl, rfl, by omega, r.drop.low, (SameC.refl _ _).wI _ (by unfold cOkI; omega), (SameM.refl _ _ _).wI _ (by unfold mOkI; omega), rfl, Nat.le_succ _, Nat.le_add_right _ _⟩
theorem g_28 (r : Rel a b i base T F S c bb n hn h (h + 1)) (hH : gI a 19 i 0 = nI (h + 1)) (x : Int32) : Good a b i base T F S c bb (j_Walk_tellEvent i a) (j_Mo_done_L202 RAN i 28 x (nI h) b) := by
  obtain ⟨m, hm, e1, e2, _⟩ := r.cntB
  have f := r.fr
  have f3 : c < 8 := f.2.2.1
  have f6 : bb < 6 := f.2.2.2.2.2.1
  have q := r.hi
  obtain ⟨l1, l2, l3, l4, e, l5, l6, l7⟩ := r.led
  have t0 : j_Pile_tookNumber i (0 : Int32) a = _ := tkB 0 h hH rfl q.2.2.2
  have t1 : j_Pile_took i (0 : Int32) a = _ := tkN 0 h hH rfl q.2.2.2
  rw [d_went RAN (by decide) (by decide) (by decide) (by decide) (by decide) (by decide) (by decide)]
  rw [w_28 RAN r e2]
  unfold j_Walk_tellEvent j_Mo_went_L356 j_Ledger_addEvent
  simp only [t0, mNb (show h < 13 by omega), r.kd h (by omega), bR_s, t1, l6, l7]
  by_cases k0 : gI a 17 i h = 0
  · by_cases k1 : e = 40
    · rw [if_neg (show ¬ nI e < (40 : Int32) from nI_nlt (b := 40) (by omega) (by omega)), if_pos (show nI e = (40 : Int32) from by rw [k1]; rfl)]
      simp only [k0, if_true, i10, if_false, bR_s]
      exact gd_fail 11 (by omega) r
    · rw [if_pos (show nI e < (40 : Int32) from nI_lt (b := 40) (by omega) (by omega)), if_neg (show ¬ nI e = (40 : Int32) from fun z => k1 ((nI_eq (b := 40) (by omega) (by omega)).mp z)), f.1, f.2.1, nI_clamp (n := e) (by omega)]
      have a1 : gI (sI a 4 0 e (nI c)) 5 0 0 = nI e := l6
      have b1 : gI (sI b 5 0 e (nI c)) 7 0 0 = nI e := l7
      have a2 : gI (sL (sI a 4 0 e (nI c)) 2 0 e (gL a 6 i h)) 5 0 0 = nI e := l6
      have b0 : gL (sI b 5 0 e (nI c)) 7 i (nI h).toNatClampNeg = gL a 6 i h := by
        rw [nI_clamp (by omega)]; exact r.nm h (by omega) k0
      have b2 : gI (sL (sI b 5 0 e (nI c)) 2 0 e (gL a 6 i h)) 7 0 0 = nI e := l7
      rw [a1, b1, nI_clamp (n := e) (by omega), a2, b0, b2, ckn (by omega) (by omega), ckn (by omega) (by omega), ckn (by omega) (by omega), ckn (by omega) (by omega), ckn (by omega) (by omega), nI_1]
      simp only [k0, if_true, i10, if_false, bR_s]
      obtain ⟨r1, r2, r3, r4, r5, r6, r7, r8, r9, r10⟩ := r.low
      refine ⟨0, n, hn, h, _, _, rfl, rfl, by omega, ⟨r1, ⟨l1, l2, ?_, ?_, e + 1, by omega, by rw [gI_sI]; simp, by rw [gI_sI]; simp⟩, r3, r4, r5, r6, r7, r8, r9, r10⟩, (((SameC.refl _ _).wI _ (by unfold cOkI; omega)).wL _ (by unfold cOkL; omega)).wI _ (by unfold cOkI; omega), (((SameM.refl _ _ _).wI _ (by unfold mOkI; omega)).wL _ (by unfold mOkL; omega)).wI _ (by unfold mOkI; omega), rfl, Nat.le_succ _, Nat.le_add_right _ _⟩
      · show gI (sI a 4 0 e (nI c)) 4 0 = gI (sI b 5 0 e (nI c)) 5 0
        rw [cw_updI, cw_updI, l3]
      · show gL (sL (sI a 4 0 e (nI c)) 2 0 e (gL a 6 i h)) 2 0 = gL (sL (sI b 5 0 e (nI c)) 2 0 e (gL a 6 i h)) 2 0
        rw [cw_updL, cw_updL]
        show vp_updL (gL a 2 0) e _ = vp_updL (gL b 2 0) e _
        rw [l4]
  · simp only [k0, if_true, i10, if_false, bR_s]
    exact gd_fail 4 (by omega) r
