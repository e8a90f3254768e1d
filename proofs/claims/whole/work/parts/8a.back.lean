-- PURE: a call comes back
theorem Rel.back {a b a2 b2 : CwS} {i base T F S c bb n hn h H T2 F2 : Nat} (r : Rel a b i base T F S c bb n hn h H) (sx : SameX (i + 1) i a a2) (sy : SameY (i + 1) i (gR b 101 2) b b2) (led : rLed a2 b2) (cnt : rCnt a2 b2 T2 F2) (dep : gI a2 8 0 0 = nI (i + 1)) (hT : T2 ≤ S) (hf : gR b2 101 0 ≤ 10) : Rel a2 (sI b2 17 i 0 (nI (S - T2))) i base T2 F2 S c bb n hn h h := by
  obtain ⟨r1, r2, r3, ⟨d1, d2, d3⟩, ⟨f1, f2, f3, f4, f5, f6, f7, f8, f9, f10, f11⟩, ⟨n1, n2, n3⟩, ⟨u1, u2, u3, u4⟩, r8, ⟨q1, q2, q3, q4⟩, ⟨w1, w2, w3, w4⟩⟩ := r.low
  have xi : ∀ k p, 10 ≤ k → gI a2 k i p = gI a k i p := fun k p hk => sx.1 k i p (by unfold cOkI; omega)
  have xl : ∀ k p, 6 ≤ k → gL a2 k i p = gL a k i p := fun k p hk => sx.2.1 k i p (by unfold cOkL; omega)
  have yi : ∀ k p, 14 ≤ k → gI b2 k i p = gI b k i p := fun k p hk => sy.1 k i p (by unfold mOkI; omega)
  have yl : ∀ p, gL b2 7 i p = gL b 7 i p := fun p => sy.2.1 7 i p (by unfold mOkL; omega)
  have yr : ∀ p, p < 12 → gR b2 50 (16 * i + p) = gR b 50 (16 * i + p) := fun p hp => sy.2.2.1 50 _ (by unfold mOkR; omega)
  refine ⟨⟨fun B hB => ?_, ?_⟩, led, cnt, ⟨dep, (sy.1 13 0 0 (by unfold mOkI; omega)).trans d2, fun c' hc => ?_⟩, ⟨(xi 13 0 (by omega)).trans f1, (yi 14 0 (by omega)).trans f2, f3, (sx.2.2 0 i (by omega)).trans f4, (yi 16 0 (by omega)).trans f5, f6, (xi 14 0 (by omega)).trans (f7.trans (yi 15 0 (by omega)).symm), (xi 16 0 (by omega)).trans f8, gI_self _ 17 i 0 _, hT, f11⟩, ⟨(xi 15 0 (by omega)).trans n1, (yi 20 0 (by omega)).trans n2, n3⟩, ⟨(xi 12 0 (by omega)).trans u1, (yi 19 0 (by omega)).trans u2, u3, fun k hk => ?_⟩, ⟨fun p hp => ?_, fun p q hp hq => ?_⟩, ⟨(xi 18 0 (by omega)).trans q1, (yi 18 0 (by omega)).trans q2, q3, q4⟩, ⟨w1, Nat.lt_of_lt_of_le w2 sy.2.2.2.1, hf, Nat.le_trans w4 sy.2.2.2.2⟩⟩
  · obtain ⟨m, h1, h2, h3, h4⟩ := r1.1 B hB
    exact ⟨m, h1, (sx.1 2 B 0 (by unfold cOkI; omega)).trans h2, (sy.1 2 0 B (by unfold mOkI; omega)).trans h3, fun p hp => ⟨(sx.1 0 B p (by unfold cOkI; omega)).trans ((h4 p hp).1.trans (sy.1 0 0 _ (by unfold mOkI; omega)).symm), (sx.1 1 B p (by unfold cOkI; omega)).trans ((h4 p hp).2.trans (sy.1 1 0 _ (by unfold mOkI; omega)).symm)⟩⟩
  · funext p
    exact (sx.1 3 0 p (by unfold cOkI; omega)).trans ((congrFun r1.2 p).trans (sy.1 3 0 p (by unfold mOkI; omega)).symm)
  · obtain ⟨u, h1, h2, h3⟩ := d3 c' hc
    refine ⟨u, h1, (sy.1 4 0 c' (by unfold mOkI; omega)).trans h2, fun g => ?_, fun ⟨j, g1, g2⟩ => h3.mpr ⟨j, g1, (sx.1 13 j 0 (by unfold cOkI; omega)).symm.trans g2⟩⟩
    obtain ⟨j, g1, g2⟩ := h3.mp g
    exact ⟨j, g1, (sx.1 13 j 0 (by unfold cOkI; omega)).trans g2⟩
  · obtain ⟨s, hh, g1, g2, g3, g4, g5, g6⟩ := u4 k hk
    exact ⟨s, hh, (xi 10 k (by omega)).trans g1, (yi 22 k (by omega)).trans g2, g3, (xi 11 k (by omega)).trans g4, (yi 23 k (by omega)).trans g5, g6⟩
  · have e := r8.1 p hp
    show gI b2 21 i p = gI a2 17 i p ∧ vR a2 (sI b2 17 i 0 (nI (S - T2))) i base (gI a2 17 i p) (gL a2 6 i p) (gL b2 7 i p) (gR b2 50 (16 * i + p))
    rw [xi 17 p (by omega), xl 6 p (by omega), yi 21 p (by omega), yl p, yr p (by omega)]
    refine ⟨e.1, e.2.tr fun k0 ρ α m g1 g2 g3 g4 g5 g6 g7 g8 g9 g10 => ⟨g4, ?_, ?_, ?_, ?_, fun k hk => ?_⟩⟩
    · exact Nat.lt_of_lt_of_le g5 sy.2.2.2.2
    · exact (sy.2.2.1 103 α (by unfold mOkR; omega)).trans g6
    · exact (sy.2.2.1 100 α (by unfold mOkR; omega)).trans g7
    · exact (xi 20 ρ (by omega)).trans g9
    · exact (xl 7 _ (by omega)).trans ((g10 k hk).trans (sy.2.1 9 α k (by unfold mOkL; omega)).symm)
  · show aR (gI a2 17 i p) (gL a2 6 i p) (gR b2 50 (16 * i + p)) (gI a2 17 i q) (gL a2 6 i q) (gR b2 50 (16 * i + q))
    rw [xi 17 p (by omega), xl 6 p (by omega), yr p (by omega), xi 17 q (by omega), xl 6 q (by omega), yr q (by omega)]
    exact r8.2 p q hp hq
theorem epi_same {b39 b1 b2 : CwS} {d i base c C : Nat} {v : Int64} (hi : i < d) (hc : gI b39 13 0 0 = nI d) (SM : SameM d base (bUp (bMv (bH b39 d) c C v) d C) b1) (hI4 : ∀ j p, gI b2 4 j p = if j = 0 ∧ p = C then gI b1 4 0 C - 1 else gI b1 4 j p) (hI13 : ∀ j p, gI b2 13 j p = if j = 0 ∧ p = 0 then nI d else gI b1 13 j p) (hIo : ∀ k j p, k ≠ 4 → k ≠ 13 → ¬ (5 ≤ k ∧ k ≤ 12) → gI b2 k j p = gI b1 k j p) (hL : ∀ k j p, 2 < k → ¬ (k = 4 ∧ j = d) → gL b2 k j p = gL b1 k j p) (hR : ∀ k j, gR b2 k j = gR b1 k j) : SameY d i base b39 b2 := by
  refine ⟨fun k j p q => ?_, fun k j p q => ?_, fun k j q => ?_, ?_, ?_⟩
  · by_cases k4 : k = 4
    · subst k4
      have e : ∀ j p, gI b1 4 j p = if j = 0 ∧ p = C then gI b39 4 0 C + 1 else gI b39 4 j p := by
        intro j p
        rw [SM.1 4 j p (by unfold mOkI; omega)]
        show gI (sI (sI (bMv (bH b39 d) c C v) 13 0 0 (nI (d + 1))) 4 0 C (gI b39 4 0 C + 1)) 4 j p = _
        rw [gI_sI]
        by_cases z : j = 0 ∧ p = C
        · rw [if_pos (by omega), if_pos z]
        · rw [if_neg (by omega), if_neg z]
          rfl
      rw [hI4, e, e]
      by_cases z : j = 0 ∧ p = C
      · rw [if_pos z, if_pos ⟨rfl, rfl⟩, Int32.add_sub_cancel, z.1, z.2]
      · rw [if_neg z, if_neg z]
    · by_cases k13 : k = 13
      · subst k13
        rw [hI13, SM.1 13 j p (by unfold mOkI; omega)]
        by_cases z : j = 0 ∧ p = 0
        · rw [if_pos z, z.1, z.2, hc]
        · rw [if_neg z]
          show gI (sI (bMv (bH b39 d) c C v) 13 0 0 (nI (d + 1))) 13 j p = _
          rw [gI_sI, if_neg (by omega)]
          rfl
      · unfold mOkI at q
        rw [hIo k j p k4 k13 (by omega), SM.1 k j p (by unfold mOkI; omega)]
        unfold bUp
        rw [gI_sI, if_neg (by omega), gI_sI, if_neg (by omega), gI_sI, if_neg (by omega)]
        rfl
  · unfold mOkL at q
    rw [hL k j p (by omega) (by omega), SM.2.1 k j p (by unfold mOkL; omega)]
    show gL (bMv (bH b39 d) c C v) k j p = _
    unfold bMv bH
    rw [gL_sL, if_neg (by omega), gL_sL, if_neg (by omega), gL_cL, if_neg (by omega), gL_cL, if_neg (by omega)]
  · rw [hR, SM.2.2.1 k j q]
    rfl
  · rw [hR]; exact SM.2.2.2.1
  · rw [hR]; exact SM.2.2.2.2
/-- the class ends a call whose caller is under way -/
theorem q_endW {a : CwS} {i h : Nat} {v : Int64} (hd : gI a 8 0 0 = nI (i + 2)) (hi : i < 9) (hh : gI a 18 i 0 = nI h) (h12 : h < 12) : j_Walk_endWell v a = some (aP (sI (sI a 7 0 3 (gI a 7 0 3 + 1)) 8 0 0 (nI (i + 1))) i h 0 v) := by
  unfold j_Walk_endWell
  have e1 : ∀ w, gI (sI a 7 0 3 w) 8 0 0 = nI (i + 2) := fun _ => hd
  have e2 : ∀ w, gI (sI (sI a 7 0 3 w) 8 0 0 (nI (i + 1))) 8 0 0 = nI (i + 1) := fun _ => rfl
  have e3 : ∀ w, gI (sI (sI a 7 0 3 w) 8 0 0 (nI (i + 1))) 18 i 0 = nI h := fun _ => hh
  rw [ck_t ix5.2.2.2.1, ck_t ix5.2.2.2.1, z32_3, e1, nI_pred, e2, if_neg (nI_nle (by omega) (by omega)), nI_pred, ckn (by omega) (by omega), nI_clamp (by omega), q_putNumber (e3 _) h12, bR_s]
/-- the class undoes the call at level d -/
def aUn (a : CwS) (d : Nat) : CwS := sI (sI (cL (cL (sI a 7 0 4 (gI a 7 0 4 + 1)) 3 d 0 0 0 0 64) 4 d 0 1 0 0 8) 5 0 0 (gI a 6 0 d)) 8 0 0 (nI d)
theorem q_undo {a : CwS} {d : Nat} (hd : gI a 8 0 0 = nI (d + 1)) (h10 : d < 10) : j_Walk_undoTo (nI d) a = some (aUn a d) := by
  unfold j_Walk_undoTo j_Ledger_restore
  have e : nI (d + 1) - nI d = 1 := by
    rw [nI_sub (by omega), show d + 1 - d = 1 by omega]; rfl
  rw [ck_t ix5.2.2.2.2, ck_t ix5.2.2.2.2, z32_4, hd, e, ckn h10 (by omega), ck_t cpk64, ckn h10 (by omega), ck_t cpk8, ckn h10 (by omega), z32_0, z32_64, z32_8, nI_clamp (by omega), bV_s]
  rfl
theorem q_failU {a : CwS} {d k f : Nat} (hd : gI a 8 0 0 = nI (d + 1)) (h10 : d < 10) (hh : gI a 12 d 0 = nI 0) : j_Walk_fail_L38 (f + 1) (nI k) (nI (d + 1)) a = j_Walk_fail_L38 f (nI k) (nI d) (aUn a d) := by
  have e : nI (d + 1) + (-1 : Int32) = nI d := by
    have := nI_pred d
    rw [Int32.sub_eq_add_neg] at this
    exact this
  rw [j_Walk_fail_L38, if_neg (nI_nle (by omega) (by omega)), nI_pred, ckn h10 (by omega), nI_clamp (by omega)]
  unfold j_Frame_handle
  rw [hh, if_neg (show ¬ (0 : Int32) < nI 0 from by decide), bR_s, if_pos rfl, q_undo hd h10, bV_s, e]
