-- PURE: codes 6 .. 12
variable {a b : CwS} {i base T F S c bb n hn h H : Nat}
theorem g_6 (r : Rel a b i base T F S c bb n hn h (h + 2)) (hH : gI a 19 i 0 = nI (h + 2)) : Good a b i base T F S c bb (j_Walk_calculate i 6 a) (j_Mo_reckoned i 6 (nI h) b) := by
  have q := r.hi
  have t0 : j_Pile_tookNumber i (0 : Int32) a = _ := tkB 0 (h + 1) hH rfl q.2.2.2
  have t1 : j_Pile_tookNumber i (1 : Int32) a = _ := tkB 1 h hH rfl q.2.2.2
  have t2 : j_Pile_took i (0 : Int32) a = _ := tkN 0 (h + 1) hH rfl q.2.2.2
  have t3 : j_Pile_took i (1 : Int32) a = _ := tkN 1 h hH rfl q.2.2.2
  unfold j_Walk_calculate j_Mo_reckoned
  simp only [t0, t1, t2, t3, bR_s, nI_1, mNb (show h < 13 by omega), mNb (show h + 1 < 13 by omega), r.kd h (by omega), r.kd (h + 1) (by omega), ckn (show h < 13 by omega) (by omega), ckn (show h + 1 < 13 by omega) (by omega), nI_clamp (show h < 2 ^ 31 by omega), nI_clamp (show h + 1 < 2 ^ 31 by omega)]
  by_cases k0 : gI a 17 i h = 0
  · by_cases k1 : gI a 17 i (h + 1) = 0
    · rw [r.nm h (by omega) k0, r.nm (h + 1) (by omega) k1]
      simp (decide := true) only [k0, k1, if_true, i10, if_false]
      generalize gL a 6 i h = x
      generalize gL a 6 i (h + 1) = y
      unfold j_Mo_reckoned_L59 j_Mo_reckoned_L79
      unfold j_CW_sumFits j_Mo_fits
      simp (decide := true) only [if_true, if_false, bR_s, bV_id, i10]
      by_cases z : lg_cmp ((x ^^^ (x + y)) &&& (y ^^^ (x + y))) 0 < 0
      · simp only [z, if_true, bR_s, i10, if_false]
        exact gd_fail 6 (by omega) r
      · simp only [z, if_true, bR_s, i10, if_false, bV_id]
        exact gd_put r (by omega) _
    · simp only [k0, k1, if_true, i10, if_false]
      exact gd_fail 4 (by omega) r
  · by_cases k1 : gI a 17 i (h + 1) = 0
    · simp only [k0, k1, if_true, i10, if_false]
      exact gd_fail 4 (by omega) r
    · simp only [k0, k1, if_true, i10, if_false]
      exact gd_fail 4 (by omega) r
theorem g_7 (r : Rel a b i base T F S c bb n hn h (h + 2)) (hH : gI a 19 i 0 = nI (h + 2)) : Good a b i base T F S c bb (j_Walk_calculate i 7 a) (j_Mo_reckoned i 7 (nI h) b) := by
  have q := r.hi
  have t0 : j_Pile_tookNumber i (0 : Int32) a = _ := tkB 0 (h + 1) hH rfl q.2.2.2
  have t1 : j_Pile_tookNumber i (1 : Int32) a = _ := tkB 1 h hH rfl q.2.2.2
  have t2 : j_Pile_took i (0 : Int32) a = _ := tkN 0 (h + 1) hH rfl q.2.2.2
  have t3 : j_Pile_took i (1 : Int32) a = _ := tkN 1 h hH rfl q.2.2.2
  unfold j_Walk_calculate j_Mo_reckoned
  simp only [t0, t1, t2, t3, bR_s, nI_1, mNb (show h < 13 by omega), mNb (show h + 1 < 13 by omega), r.kd h (by omega), r.kd (h + 1) (by omega), ckn (show h < 13 by omega) (by omega), ckn (show h + 1 < 13 by omega) (by omega), nI_clamp (show h < 2 ^ 31 by omega), nI_clamp (show h + 1 < 2 ^ 31 by omega)]
  by_cases k0 : gI a 17 i h = 0
  · by_cases k1 : gI a 17 i (h + 1) = 0
    · rw [r.nm h (by omega) k0, r.nm (h + 1) (by omega) k1]
      simp (decide := true) only [k0, k1, if_true, i10, if_false]
      generalize gL a 6 i h = x
      generalize gL a 6 i (h + 1) = y
      unfold j_Mo_reckoned_L59 j_Mo_reckoned_L79
      unfold j_CW_differenceFits j_Mo_fits
      simp (decide := true) only [if_true, if_false, bR_s, bV_id, i10]
      by_cases z : lg_cmp ((x ^^^ y) &&& (x ^^^ (x - y))) 0 < 0
      · simp only [z, if_true, bR_s, i10, if_false]
        exact gd_fail 6 (by omega) r
      · simp only [z, if_true, bR_s, i10, if_false, bV_id]
        exact gd_put r (by omega) _
    · simp only [k0, k1, if_true, i10, if_false]
      exact gd_fail 4 (by omega) r
  · by_cases k1 : gI a 17 i (h + 1) = 0
    · simp only [k0, k1, if_true, i10, if_false]
      exact gd_fail 4 (by omega) r
    · simp only [k0, k1, if_true, i10, if_false]
      exact gd_fail 4 (by omega) r
theorem g_8 (r : Rel a b i base T F S c bb n hn h (h + 2)) (hH : gI a 19 i 0 = nI (h + 2)) : Good a b i base T F S c bb (j_Walk_calculate i 8 a) (j_Mo_reckoned i 8 (nI h) b) := by
  have q := r.hi
  have t0 : j_Pile_tookNumber i (0 : Int32) a = _ := tkB 0 (h + 1) hH rfl q.2.2.2
  have t1 : j_Pile_tookNumber i (1 : Int32) a = _ := tkB 1 h hH rfl q.2.2.2
  have t2 : j_Pile_took i (0 : Int32) a = _ := tkN 0 (h + 1) hH rfl q.2.2.2
  have t3 : j_Pile_took i (1 : Int32) a = _ := tkN 1 h hH rfl q.2.2.2
  unfold j_Walk_calculate j_Mo_reckoned
  simp only [t0, t1, t2, t3, bR_s, nI_1, mNb (show h < 13 by omega), mNb (show h + 1 < 13 by omega), r.kd h (by omega), r.kd (h + 1) (by omega), ckn (show h < 13 by omega) (by omega), ckn (show h + 1 < 13 by omega) (by omega), nI_clamp (show h < 2 ^ 31 by omega), nI_clamp (show h + 1 < 2 ^ 31 by omega)]
  by_cases k0 : gI a 17 i h = 0
  · by_cases k1 : gI a 17 i (h + 1) = 0
    · rw [r.nm h (by omega) k0, r.nm (h + 1) (by omega) k1]
      simp (decide := true) only [k0, k1, if_true, i10, if_false]
      generalize gL a 6 i h = x
      generalize gL a 6 i (h + 1) = y
      unfold j_Mo_reckoned_L59 j_Mo_reckoned_L79
      by_cases z : pFit x y
      · rw [(h_cls x y a).1 z, (h_ref x y b).1 z]
        simp (decide := true) only [if_true, if_false, bR_s, bV_id, i10]
        exact gd_put r (by omega) _
      · rw [(h_cls x y a).2 z, (h_ref x y b).2 z]
        simp (decide := true) only [if_true, if_false, bR_s, bV_id, i10]
        exact gd_fail 6 (by omega) r
    · simp only [k0, k1, if_true, i10, if_false]
      exact gd_fail 4 (by omega) r
  · by_cases k1 : gI a 17 i (h + 1) = 0
    · simp only [k0, k1, if_true, i10, if_false]
      exact gd_fail 4 (by omega) r
    · simp only [k0, k1, if_true, i10, if_false]
      exact gd_fail 4 (by omega) r
theorem g_9 (r : Rel a b i base T F S c bb n hn h (h + 2)) (hH : gI a 19 i 0 = nI (h + 2)) : Good a b i base T F S c bb (j_Walk_calculate i 9 a) (j_Mo_reckoned i 9 (nI h) b) := by
  have q := r.hi
  have t0 : j_Pile_tookNumber i (0 : Int32) a = _ := tkB 0 (h + 1) hH rfl q.2.2.2
  have t1 : j_Pile_tookNumber i (1 : Int32) a = _ := tkB 1 h hH rfl q.2.2.2
  have t2 : j_Pile_took i (0 : Int32) a = _ := tkN 0 (h + 1) hH rfl q.2.2.2
  have t3 : j_Pile_took i (1 : Int32) a = _ := tkN 1 h hH rfl q.2.2.2
  unfold j_Walk_calculate j_Mo_reckoned
  simp only [t0, t1, t2, t3, bR_s, nI_1, mNb (show h < 13 by omega), mNb (show h + 1 < 13 by omega), r.kd h (by omega), r.kd (h + 1) (by omega), ckn (show h < 13 by omega) (by omega), ckn (show h + 1 < 13 by omega) (by omega), nI_clamp (show h < 2 ^ 31 by omega), nI_clamp (show h + 1 < 2 ^ 31 by omega)]
  by_cases k0 : gI a 17 i h = 0
  · by_cases k1 : gI a 17 i (h + 1) = 0
    · rw [r.nm h (by omega) k0, r.nm (h + 1) (by omega) k1]
      simp (decide := true) only [k0, k1, if_true, i10, if_false]
      generalize gL a 6 i h = x
      generalize gL a 6 i (h + 1) = y
      unfold j_Mo_reckoned_L50 j_Mo_reckoned_L59 j_Mo_reckoned_L79
      by_cases z : y = 0
      · simp only [if_pos (lg_cmp0.mpr z)]
        exact gd_fail 1 (by omega) r
      · simp (decide := true) only [if_neg (fun g => z (lg_cmp0.mp g)), if_true, if_false, bR_s, bV_id, i10, ck_t (show (!(decide (y = 0))) = true by simp [z])]
        exact gd_put r (by omega) _
    · simp only [k0, k1, if_true, i10, if_false]
      exact gd_fail 4 (by omega) r
  · by_cases k1 : gI a 17 i (h + 1) = 0
    · simp only [k0, k1, if_true, i10, if_false]
      exact gd_fail 4 (by omega) r
    · simp only [k0, k1, if_true, i10, if_false]
      exact gd_fail 4 (by omega) r
theorem g_10 (r : Rel a b i base T F S c bb n hn h (h + 2)) (hH : gI a 19 i 0 = nI (h + 2)) : Good a b i base T F S c bb (j_Walk_calculate i 10 a) (j_Mo_reckoned i 10 (nI h) b) := by
  have q := r.hi
  have t0 : j_Pile_tookNumber i (0 : Int32) a = _ := tkB 0 (h + 1) hH rfl q.2.2.2
  have t1 : j_Pile_tookNumber i (1 : Int32) a = _ := tkB 1 h hH rfl q.2.2.2
  have t2 : j_Pile_took i (0 : Int32) a = _ := tkN 0 (h + 1) hH rfl q.2.2.2
  have t3 : j_Pile_took i (1 : Int32) a = _ := tkN 1 h hH rfl q.2.2.2
  unfold j_Walk_calculate j_Mo_reckoned
  simp only [t0, t1, t2, t3, bR_s, nI_1, mNb (show h < 13 by omega), mNb (show h + 1 < 13 by omega), r.kd h (by omega), r.kd (h + 1) (by omega), ckn (show h < 13 by omega) (by omega), ckn (show h + 1 < 13 by omega) (by omega), nI_clamp (show h < 2 ^ 31 by omega), nI_clamp (show h + 1 < 2 ^ 31 by omega)]
  by_cases k0 : gI a 17 i h = 0
  · by_cases k1 : gI a 17 i (h + 1) = 0
    · rw [r.nm h (by omega) k0, r.nm (h + 1) (by omega) k1]
      simp (decide := true) only [k0, k1, if_true, i10, if_false]
      generalize gL a 6 i h = x
      generalize gL a 6 i (h + 1) = y
      unfold j_Mo_reckoned_L50 j_Mo_reckoned_L59 j_Mo_reckoned_L79
      by_cases z : y = 0
      · simp only [if_pos (lg_cmp0.mpr z)]
        exact gd_fail 1 (by omega) r
      · simp (decide := true) only [if_neg (fun g => z (lg_cmp0.mp g)), if_true, if_false, bR_s, bV_id, i10, ck_t (show (!(decide (y = 0))) = true by simp [z])]
        exact gd_put r (by omega) _
    · simp only [k0, k1, if_true, i10, if_false]
      exact gd_fail 4 (by omega) r
  · by_cases k1 : gI a 17 i (h + 1) = 0
    · simp only [k0, k1, if_true, i10, if_false]
      exact gd_fail 4 (by omega) r
    · simp only [k0, k1, if_true, i10, if_false]
      exact gd_fail 4 (by omega) r
theorem g_11 (r : Rel a b i base T F S c bb n hn h (h + 2)) (hH : gI a 19 i 0 = nI (h + 2)) : Good a b i base T F S c bb (j_Walk_calculate i 11 a) (j_Mo_reckoned i 11 (nI h) b) := by
  have q := r.hi
  have t0 : j_Pile_tookNumber i (0 : Int32) a = _ := tkB 0 (h + 1) hH rfl q.2.2.2
  have t1 : j_Pile_tookNumber i (1 : Int32) a = _ := tkB 1 h hH rfl q.2.2.2
  have t2 : j_Pile_took i (0 : Int32) a = _ := tkN 0 (h + 1) hH rfl q.2.2.2
  have t3 : j_Pile_took i (1 : Int32) a = _ := tkN 1 h hH rfl q.2.2.2
  unfold j_Walk_calculate j_Mo_reckoned
  simp only [t0, t1, t2, t3, bR_s, nI_1, mNb (show h < 13 by omega), mNb (show h + 1 < 13 by omega), r.kd h (by omega), r.kd (h + 1) (by omega), ckn (show h < 13 by omega) (by omega), ckn (show h + 1 < 13 by omega) (by omega), nI_clamp (show h < 2 ^ 31 by omega), nI_clamp (show h + 1 < 2 ^ 31 by omega)]
  by_cases k0 : gI a 17 i h = 0
  · by_cases k1 : gI a 17 i (h + 1) = 0
    · rw [r.nm h (by omega) k0, r.nm (h + 1) (by omega) k1]
      simp (decide := true) only [k0, k1, if_true, i10, if_false]
      generalize gL a 6 i h = x
      generalize gL a 6 i (h + 1) = y
      unfold j_Mo_reckoned_L59 j_Mo_reckoned_L79
      simp (decide := true) only [if_true, if_false, bR_s, bV_id, i10]
      by_cases z : 0 ≤ lg_cmp x y
      · simp only [z, if_true]
        exact gd_put r (by omega) _
      · simp only [z, if_false]
        exact gd_put r (by omega) _
    · simp only [k0, k1, if_true, i10, if_false]
      exact gd_fail 4 (by omega) r
  · by_cases k1 : gI a 17 i (h + 1) = 0
    · simp only [k0, k1, if_true, i10, if_false]
      exact gd_fail 4 (by omega) r
    · simp only [k0, k1, if_true, i10, if_false]
      exact gd_fail 4 (by omega) r
theorem g_12 (r : Rel a b i base T F S c bb n hn h (h + 2)) (hH : gI a 19 i 0 = nI (h + 2)) : Good a b i base T F S c bb (j_Walk_calculate i 12 a) (j_Mo_reckoned i 12 (nI h) b) := by
  have q := r.hi
  have t0 : j_Pile_tookNumber i (0 : Int32) a = _ := tkB 0 (h + 1) hH rfl q.2.2.2
  have t1 : j_Pile_tookNumber i (1 : Int32) a = _ := tkB 1 h hH rfl q.2.2.2
  have t2 : j_Pile_took i (0 : Int32) a = _ := tkN 0 (h + 1) hH rfl q.2.2.2
  have t3 : j_Pile_took i (1 : Int32) a = _ := tkN 1 h hH rfl q.2.2.2
  unfold j_Walk_calculate j_Mo_reckoned
  simp only [t0, t1, t2, t3, bR_s, nI_1, mNb (show h < 13 by omega), mNb (show h + 1 < 13 by omega), r.kd h (by omega), r.kd (h + 1) (by omega), ckn (show h < 13 by omega) (by omega), ckn (show h + 1 < 13 by omega) (by omega), nI_clamp (show h < 2 ^ 31 by omega), nI_clamp (show h + 1 < 2 ^ 31 by omega)]
  by_cases k0 : gI a 17 i h = 0
  · by_cases k1 : gI a 17 i (h + 1) = 0
    · rw [r.nm h (by omega) k0, r.nm (h + 1) (by omega) k1]
      simp (decide := true) only [k0, k1, if_true, i10, if_false]
      generalize gL a 6 i h = x
      generalize gL a 6 i (h + 1) = y
      unfold j_Mo_reckoned_L59 j_Mo_reckoned_L79
      simp (decide := true) only [if_true, if_false, bR_s, bV_id, i10]
      by_cases z : lg_cmp x y = 0
      · simp only [z, if_true]
        exact gd_put r (by omega) _
      · simp only [z, if_false]
        exact gd_put r (by omega) _
    · simp only [k0, k1, if_true, i10, if_false]
      exact gd_fail 4 (by omega) r
  · by_cases k1 : gI a 17 i (h + 1) = 0
    · simp only [k0, k1, if_true, i10, if_false]
      exact gd_fail 4 (by omega) r
    · simp only [k0, k1, if_true, i10, if_false]
      exact gd_fail 4 (by omega) r
