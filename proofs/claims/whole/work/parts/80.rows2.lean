-- PURE: codes 17 .. 21
variable {a b : CwS} {i base T F S c bb n hn h H : Nat}
theorem c_putEl (kd : Int32) (hk : kd = 1 ∨ kd = 2) (r : Rel a b i base T F S c bb n hn h (h + 2)) (hH : gI a 19 i 0 = nI (h + 2)) : Good a b i base T F S c bb (j_Rows_putElement i kd a) (bR (j_MF_isNumber i (nI h + 1) b) fun r60 st61 => if r60 = 0 then some (4, st61) else j_Mo_rowed_L209 i (nI h) 0 kd st61) := by
  have q := r.hi
  have t0 : j_Pile_tookNumber i (0 : Int32) a = _ := tkB 0 (h + 1) hH rfl q.2.2.2
  have t1 : j_Pile_took i (0 : Int32) a = _ := tkN 0 (h + 1) hH rfl q.2.2.2
  have t2 : j_Pile_took i (1 : Int32) a = _ := tkN 1 h hH rfl q.2.2.2
  have t3 : j_Pile_tookKind i (1 : Int32) a = _ := tkK 1 h hH rfl q.2.2.2
  unfold j_Rows_putElement
  simp only [t0, t1, t2, t3, bR_s, nI_1, mNb (show h + 1 < 13 by omega), r.kd (h + 1) (by omega)]
  by_cases k0 : gI a 17 i (h + 1) = 0
  · simp only [k0, if_true, i10, if_false]
    exact g_el kd hk r hH _ rfl k0
  · simp only [k0, if_true, i10, if_false]
    exact gd_fail 4 (by omega) r
theorem g_17 (r : Rel a b i base T F S c bb n hn h (h + 2)) (hH : gI a 19 i 0 = nI (h + 2)) : Good a b i base T F S c bb (j_Rows_putElement i 1 a) (j_Mo_rowed i 17 (nI h) b) := by
  have e : j_Mo_rowed i 17 (nI h) b = (bR (j_MF_isNumber i (nI h + 1) b) fun r60 st61 => if r60 = 0 then some (4, st61) else j_Mo_rowed_L209 i (nI h) 0 1 st61) := by
    unfold j_Mo_rowed j_Mo_rowed_L175
    simp (decide := true) only [if_false, if_true]
  rw [e]
  exact c_putEl 1 (Or.inl rfl) r hH
theorem g_18 (r : Rel a b i base T F S c bb n hn h (h + 2)) (hH : gI a 19 i 0 = nI (h + 2)) : Good a b i base T F S c bb (j_Rows_putElement i 2 a) (j_Mo_rowed i 18 (nI h) b) := by
  have e : j_Mo_rowed i 18 (nI h) b = (bR (j_MF_isNumber i (nI h + 1) b) fun r60 st61 => if r60 = 0 then some (4, st61) else j_Mo_rowed_L209 i (nI h) 0 2 st61) := by
    unfold j_Mo_rowed
    simp (decide := true) only [if_false, if_true]
  rw [e]
  exact c_putEl 2 (Or.inr rfl) r hH
/-- one element of a row changes -/
theorem Rel.elem (r : Rel a b i base T F S c bb n hn h H) {ρ α m k p0 : Nat} (hp : p0 < H) (hk0 : gI a 17 i p0 = 1 ∨ gI a 17 i p0 = 2) (h1 : ρ < 12) (h2 : gL a 6 i p0 = lN ρ) (h3 : gR b 50 (16 * i + p0) = α + 1) (h8 : m ≤ 16) (hk : k < m) (v : Int64) : Rel (sL a 7 i (16 * ρ + k) v) (sL b 9 α k v) i base T F S c bb n hn h h := by
  obtain ⟨r1, r2, r3, r4, r5, r6, r7, r8, r9, r10⟩ := r.low
  have hh := r.hi.2.2.1
  refine ⟨r1, r2, r3, r4, r5, r6, r7, ⟨fun p hp2 => ⟨(r8.1 p hp2).1, (r8.1 p hp2).2.tr fun k0 ρ' α' m' g1 g2 g3 g4 g5 g6 g7 g8 g9 g10 => ⟨g4, g5, g6, g7, g9, fun j hj => ?_⟩⟩, r8.2⟩, r9, r10⟩
  have al := r.pile.2 p0 p hp (by omega) hk0 k0
  rw [h2, h3, g2, g3, lN_eq (by omega) (by omega)] at al
  rw [gL_sL, gL_sL]
  by_cases z : ρ = ρ'
  · have z2 : α = α' := by have := al.mp z; omega
    subst z z2
    by_cases z3 : j = k
    · subst z3; simp
    · rw [if_neg (by omega), if_neg (by omega)]
      exact g10 j hj
  · have z2 : ¬ α' = α := fun g => z (al.mpr (by omega))
    rw [if_neg (by omega), if_neg (by omega)]
    exact g10 j hj
theorem c_chEl (kd : Int32) (hk : kd = 1 ∨ kd = 2) (r : Rel a b i base T F S c bb n hn h (h + 3)) (hH : gI a 19 i 0 = nI (h + 3)) : Good a b i base T F S c bb (j_Rows_changeElement i kd a) (bR (j_MF_isNumber i (nI h + 1) b) fun r66 st67 => if r66 = 0 then some (4, st67) else bR (j_MF_isNumber i (nI h + 2) st67) fun r70 st71 => if r70 = 0 then some (4, st71) else j_Mo_rowed_L209 i (nI h) 1 kd st71) := by
  have q := r.hi
  have t0 : j_Pile_tookNumber i (0 : Int32) a = _ := tkB 0 (h + 2) hH rfl q.2.2.2
  have t1 : j_Pile_tookNumber i (1 : Int32) a = _ := tkB 1 (h + 1) hH rfl q.2.2.2
  have t2 : j_Pile_took i (0 : Int32) a = _ := tkN 0 (h + 2) hH rfl q.2.2.2
  have t3 : j_Pile_took i (1 : Int32) a = _ := tkN 1 (h + 1) hH rfl q.2.2.2
  have t4 : j_Pile_took i (2 : Int32) a = _ := tkN 2 h hH rfl q.2.2.2
  have t5 : j_Pile_tookKind i (2 : Int32) a = _ := tkK 2 h hH rfl q.2.2.2
  unfold j_Rows_changeElement
  simp only [t0, t1, t2, t3, t4, t5, bR_s, nI_1, nI_p2, mNb (show h + 1 < 13 by omega), mNb (show h + 2 < 13 by omega), r.kd (h + 1) (by omega), r.kd (h + 2) (by omega)]
  by_cases k2 : gI a 17 i (h + 2) = 0
  · by_cases k1 : gI a 17 i (h + 1) = 0
    · simp only [k1, k2, if_true, i10, if_false]
      unfold j_Mo_rowed_L209
      rw [q_wr (by omega), bR_s, r.kd h (by omega), nI_1, nI_p2, ckn (show h + 1 < 13 by omega) (by omega), nI_clamp (show h + 1 < 2 ^ 31 by omega), nI_clamp (show h + 2 < 2 ^ 31 by omega), r.nm (h + 1) (by omega) k1, r.nm (h + 2) (by omega) k2, nI_clamp (show h < 2 ^ 31 by omega)]
      simp only [ckn (show h < 13 by omega) (by omega), ckn (show h + 2 < 13 by omega) (by omega)]
      generalize ey : gL a 6 i (h + 1) = y
      generalize gL a 6 i (h + 2) = v
      rcases q_elF (y := y) hk (r.vr h (by omega)) with ⟨z, e⟩ | ⟨z, z2, e⟩ | ⟨z, z2, ρ, α, m, h1, h2, h3, h4, h5, h6, h7, h8, h9, h10, w⟩
      · rw [e, bR_s, z]
        exact gd_fail 2 (by omega) r
      · rw [e, bR_s, if_neg z, if_neg z2]
        exact gd_fail 4 (by omega) r
      · have hkk : gI a 17 i h = 1 ∨ gI a 17 i h = 2 := by rw [z2]; exact hk
        rw [if_neg z, if_pos z2, if_pos (by decide), h3]
        simp only [ck_t (q_isRow h6), Nat.add_sub_cancel, h7, lN_len, nI_l (show m < 2 ^ 31 by omega)]
        rcases w with ⟨y0, e⟩ | ⟨y1, y0, e⟩ | ⟨k, hkm, e0, e⟩
        · rw [e, bR_s, if_neg (by decide), if_pos (lt0.mpr y0)]
          exact gd_fail 3 (by omega) r
        · rw [e, bR_s, if_neg (by decide), if_neg (fun g => y0 (lt0.mp g)), if_neg (fun g => by have := (ltN (by omega)).mp g; omega)]
          exact gd_fail 3 (by omega) r
        · have yk : y.toInt = k := by rw [e0, lN_toInt (by omega)]
          have fin : ∀ v, Good a b i base T F S c bb (some (0, sL a 7 i (16 * ρ + k) v)) (some (0, sL b 9 α k v)) := fun v => ⟨0, n, hn, h, _, _, rfl, rfl, by omega, r.elem (by omega) hkk h1 h2 h3 h8 hkm v, (SameC.refl _ _).wL _ (by unfold cOkL; omega), (SameM.refl _ _ _).wL _ (by unfold mOkL; omega), rfl, Nat.le_succ _, Nat.le_add_right _ _⟩
          rw [e, bR_s, if_pos rfl, if_neg (fun g => by have := lt0.mp g; omega), if_pos ((ltN (by omega)).mpr (by omega)), if_neg (by decide), h2, e0, q_plc, bR_s, lN_i]
          simp only [ckn (show 16 * ρ + k < 192 by omega) (by omega), nI_clamp (show 16 * ρ + k < 2 ^ 31 by omega), ckn hkm (by omega), nI_clamp (show k < 2 ^ 31 by omega)]
          by_cases kk : kd = 2
          · rw [if_pos kk, if_pos kk]
            exact fin _
          · rw [if_neg kk, if_neg kk]
            exact fin _
    · simp only [k1, k2, if_true, i10, if_false]
      exact gd_fail 4 (by omega) r
  · by_cases k1 : gI a 17 i (h + 1) = 0
    · simp only [k1, k2, if_true, i10, if_false]
      exact gd_fail 4 (by omega) r
    · simp only [k1, k2, if_true, i10, if_false]
      exact gd_fail 4 (by omega) r
theorem g_19 (r : Rel a b i base T F S c bb n hn h (h + 3)) (hH : gI a 19 i 0 = nI (h + 3)) : Good a b i base T F S c bb (j_Rows_changeElement i 1 a) (j_Mo_rowed i 19 (nI h) b) := by
  have e : j_Mo_rowed i 19 (nI h) b = (bR (j_MF_isNumber i (nI h + 1) b) fun r66 st67 => if r66 = 0 then some (4, st67) else bR (j_MF_isNumber i (nI h + 2) st67) fun r70 st71 => if r70 = 0 then some (4, st71) else j_Mo_rowed_L209 i (nI h) 1 1 st71) := by
    unfold j_Mo_rowed j_Mo_rowed_L175
    simp (decide := true) only [if_false, if_true]
  rw [e]
  exact c_chEl 1 (Or.inl rfl) r hH
theorem g_20 (r : Rel a b i base T F S c bb n hn h (h + 3)) (hH : gI a 19 i 0 = nI (h + 3)) : Good a b i base T F S c bb (j_Rows_changeElement i 2 a) (j_Mo_rowed i 20 (nI h) b) := by
  have e : j_Mo_rowed i 20 (nI h) b = (bR (j_MF_isNumber i (nI h + 1) b) fun r66 st67 => if r66 = 0 then some (4, st67) else bR (j_MF_isNumber i (nI h + 2) st67) fun r70 st71 => if r70 = 0 then some (4, st71) else j_Mo_rowed_L209 i (nI h) 1 2 st71) := by
    unfold j_Mo_rowed
    simp (decide := true) only [if_false, if_true]
  rw [e]
  exact c_chEl 2 (Or.inr rfl) r hH
theorem g_15 (r : Rel a b i base T F S c bb n hn h (h + 1)) (hH : gI a 19 i 0 = nI (h + 1)) : Good a b i base T F S c bb (j_Rows_putNew i 1 a) (j_Mo_rowed i 15 (nI h) b) := by
  have e : j_Mo_rowed i 15 (nI h) b = j_Mo_rowed_L12 i 15 (nI h) b := by
    unfold j_Mo_rowed
    simp (decide := true) only [if_false, if_true]
  rw [e]
  exact g_new 15 1 (Or.inl ⟨rfl, rfl⟩) r hH
theorem g_16 (r : Rel a b i base T F S c bb n hn h (h + 1)) (hH : gI a 19 i 0 = nI (h + 1)) : Good a b i base T F S c bb (j_Rows_putNew i 2 a) (j_Mo_rowed i 16 (nI h) b) := by
  have e : j_Mo_rowed i 16 (nI h) b = j_Mo_rowed_L12 i 16 (nI h) b := by
    unfold j_Mo_rowed
    simp (decide := true) only [if_false, if_true]
  rw [e]
  exact g_new 16 2 (Or.inr ⟨rfl, rfl⟩) r hH
theorem g_21 (r : Rel a b i base T F S c bb n hn h (h + 1)) (hH : gI a 19 i 0 = nI (h + 1)) : Good a b i base T F S c bb (j_Rows_putLength i a) (j_Mo_rowed i 21 (nI h) b) := by
  have q := r.hi
  have t0 : j_Pile_tookNumber i (0 : Int32) a = _ := tkB 0 h hH rfl q.2.2.2
  have t1 : j_Pile_took i (0 : Int32) a = _ := tkN 0 h hH rfl q.2.2.2
  have t3 : j_Pile_tookKind i (0 : Int32) a = _ := tkK 0 h hH rfl q.2.2.2
  unfold j_Rows_putLength j_Mo_rowed j_Mo_rowed_L108
  simp (decide := true) only [t0, t1, t3, bR_s, if_false, if_true, ckn (show h < 13 by omega) (show h < 2 ^ 31 by omega), nI_clamp (show h < 2 ^ 31 by omega), r.kd h (by omega)]
  by_cases k3 : gI a 17 i h = 3
  · simp only [k3, if_true]
    exact gd_fail 2 (by omega) r
  · by_cases k0 : gI a 17 i h = 0
    · simp (decide := true) only [k0, if_true, if_false, i10]
      exact gd_fail 4 (by omega) r
    · obtain ⟨_, ρ, α, m, h1, h2, h3, h4, h5, h6, h7, h8, h9, h10⟩ := (r.vr h (by omega)).row k0 k3
      simp only [k0, k3, if_true, if_false]
      rw [h2, q_len h1 h9, bR_s, h3, ck_t (q_isRow h6), Nat.add_sub_cancel, h7, bV_id]
      exact gd_put r (by omega) _
