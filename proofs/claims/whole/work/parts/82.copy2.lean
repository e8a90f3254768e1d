-- PURE: code 23, the step
variable {a b : CwS} {i base T F S c bb n hn h H : Nat}
theorem gtN {x : Int64} {m : Nat} (hm : m < 2 ^ 31) : 0 < lg_cmp x (lN m) ↔ (m : Int) < x.toInt := by
  rw [lg_cmp_gt, Int64.lt_iff_toInt_lt, lN_toInt hm]
theorem subT {y : Int64} {m : Nat} (hm : m < 2 ^ 31) (h0 : 0 ≤ y.toInt) (h1 : y.toInt ≤ m) : (lN m - y).toInt = m - y.toInt := by
  rw [Int64.toInt_sub, lN_toInt hm]
  exact h_bm (by omega)
theorem gtS {x y : Int64} {m : Nat} (hm : m < 2 ^ 31) (h0 : 0 ≤ y.toInt) (h1 : y.toInt ≤ m) : 0 < lg_cmp x (lN m - y) ↔ (m : Int) - y.toInt < x.toInt := by
  rw [lg_cmp_gt, Int64.lt_iff_toInt_lt, subT hm h0 h1]
theorem leS {x y : Int64} {m : Nat} (hm : m < 2 ^ 31) (h0 : 0 ≤ y.toInt) (h1 : y.toInt ≤ m) : lg_cmp x (lN m - y) ≤ 0 ↔ x.toInt ≤ (m : Int) - y.toInt := by
  rw [lg_cmp_le, Int64.le_iff_toInt_le, subT hm h0 h1]
theorem q_rng {ρ m : Nat} (hρ : ρ < 12) (hm : m ≤ 16) (e : gI a 20 i ρ = nI m) (y x : Int64) : (0 ≤ x.toInt ∧ 0 ≤ y.toInt ∧ y.toInt + x.toInt ≤ m → j_Rows_hasRange i (lN ρ) y x a = some (1, a)) ∧ (¬ (0 ≤ x.toInt ∧ 0 ≤ y.toInt ∧ y.toInt + x.toInt ≤ m) → j_Rows_hasRange i (lN ρ) y x a = some (0, a)) := by
  unfold j_Rows_hasRange
  rw [q_len hρ e, bR_s, nI_l (by omega)]
  constructor
  · intro g
    rw [if_neg (fun z => by have := lt0.mp z; omega), if_neg (fun z => by have := lt0.mp z; omega), if_neg (fun z => by have := (gtN (by omega)).mp z; omega), if_neg (fun z => by have := (gtS (by omega) (by omega) (by omega)).mp z; omega)]
  · intro g
    by_cases x0 : x.toInt < 0
    · rw [if_pos (lt0.mpr x0)]
    · rw [if_neg (fun z => x0 (lt0.mp z))]
      by_cases y0 : y.toInt < 0
      · rw [if_pos (lt0.mpr y0)]
      · rw [if_neg (fun z => y0 (lt0.mp z))]
        by_cases y1 : (m : Int) < y.toInt
        · rw [if_pos ((gtN (by omega)).mpr y1)]
        · rw [if_neg (fun z => y1 ((gtN (by omega)).mp z)), if_pos ((gtS (by omega) (by omega) (by omega)).mpr (by omega))]
def okR (x y w : Int64) (la lb : Nat) : Prop := 0 ≤ x.toInt ∧ 0 ≤ y.toInt ∧ 0 ≤ w.toInt ∧ y.toInt + x.toInt ≤ la ∧ w.toInt + x.toInt ≤ lb
theorem q_refC {x y w : Int64} {la lb : Nat} (ha : la ≤ 16) (hb : lb ≤ 16) {E Z : Option (Int32 × CwS)} : (okR x y w la lb → (if lg_cmp x 0 < 0 then E else if lg_cmp y 0 < 0 then E else if lg_cmp w 0 < 0 then E else if 0 < lg_cmp x (lN la) then E else if 0 < lg_cmp x (lN lb) then E else if 0 < lg_cmp y (lN la - x) then E else if lg_cmp w (lN lb - x) ≤ 0 then Z else E) = Z) ∧ (¬ okR x y w la lb → (if lg_cmp x 0 < 0 then E else if lg_cmp y 0 < 0 then E else if lg_cmp w 0 < 0 then E else if 0 < lg_cmp x (lN la) then E else if 0 < lg_cmp x (lN lb) then E else if 0 < lg_cmp y (lN la - x) then E else if lg_cmp w (lN lb - x) ≤ 0 then Z else E) = E) := by
  unfold okR
  by_cases x0 : x.toInt < 0
  · rw [if_pos (lt0.mpr x0)]
    exact ⟨fun g => by omega, fun _ => rfl⟩
  · rw [if_neg (fun z => x0 (lt0.mp z))]
    by_cases y0 : y.toInt < 0
    · rw [if_pos (lt0.mpr y0)]
      exact ⟨fun g => by omega, fun _ => rfl⟩
    · rw [if_neg (fun z => y0 (lt0.mp z))]
      by_cases w0 : w.toInt < 0
      · rw [if_pos (lt0.mpr w0)]
        exact ⟨fun g => by omega, fun _ => rfl⟩
      · rw [if_neg (fun z => w0 (lt0.mp z))]
        by_cases x1 : (la : Int) < x.toInt
        · rw [if_pos ((gtN (by omega)).mpr x1)]
          exact ⟨fun g => by omega, fun _ => rfl⟩
        · rw [if_neg (fun z => x1 ((gtN (by omega)).mp z))]
          by_cases x2 : (lb : Int) < x.toInt
          · rw [if_pos ((gtN (by omega)).mpr x2)]
            exact ⟨fun g => by omega, fun _ => rfl⟩
          · rw [if_neg (fun z => x2 ((gtN (by omega)).mp z))]
            by_cases y1 : (la : Int) - x.toInt < y.toInt
            · rw [if_pos ((gtS (by omega) (by omega) (by omega)).mpr y1)]
              exact ⟨fun g => by omega, fun _ => rfl⟩
            · rw [if_neg (fun z => y1 ((gtS (by omega) (by omega) (by omega)).mp z))]
              by_cases w1 : w.toInt ≤ (lb : Int) - x.toInt
              · rw [if_pos ((leS (by omega) (by omega) (by omega)).mpr w1)]
                exact ⟨fun _ => rfl, fun g => absurd (by omega) g⟩
              · rw [if_neg (fun z => w1 ((leS (by omega) (by omega) (by omega)).mp z))]
                exact ⟨fun g => by omega, fun _ => rfl⟩
theorem q_clsC {x y w : Int64} {ρa ρb la lb : Nat} (p1 : ρa < 12) (p8 : la ≤ 16) (p9 : gI a 20 i ρa = nI la) (s1 : ρb < 12) (s8 : lb ≤ 16) (s9 : gI a 20 i ρb = nI lb) (K : CwS → Option (Int32 × CwS)) : (okR x y w la lb → (bR (j_Rows_hasRange i (lN ρa) y x a) fun r47 st48 => if r47 = 0 then some (3, st48) else bR (j_Rows_hasRange i (lN ρb) w x st48) fun r51 st52 => if r51 = 0 then some (3, st52) else K st52) = K a) ∧ (¬ okR x y w la lb → (bR (j_Rows_hasRange i (lN ρa) y x a) fun r47 st48 => if r47 = 0 then some (3, st48) else bR (j_Rows_hasRange i (lN ρb) w x st48) fun r51 st52 => if r51 = 0 then some (3, st52) else K st52) = some ((3 : Int32), a)) := by
  unfold okR
  by_cases g1 : 0 ≤ x.toInt ∧ 0 ≤ y.toInt ∧ y.toInt + x.toInt ≤ la
  · rw [(q_rng p1 p8 p9 y x).1 g1, bR_s, if_neg (by decide)]
    by_cases g2 : 0 ≤ x.toInt ∧ 0 ≤ w.toInt ∧ w.toInt + x.toInt ≤ lb
    · rw [(q_rng s1 s8 s9 w x).1 g2, bR_s, if_neg (by decide)]
      exact ⟨fun _ => rfl, fun g => absurd (by omega) g⟩
    · rw [(q_rng s1 s8 s9 w x).2 g2, bR_s, if_pos rfl]
      exact ⟨fun g => absurd (by omega) g2, fun _ => rfl⟩
  · rw [(q_rng p1 p8 p9 y x).2 g1, bR_s, if_pos rfl]
    exact ⟨fun g => absurd (by omega) g1, fun _ => rfl⟩
theorem q_clsK {N I J ρa ρb : Nat} (h1 : ρa < 12) (h2 : ρb < 12) (hI : I + N ≤ 16) (hJ : J + N ≤ 16) : (if lg_cmp (lN N) 0 ≤ 0 then some (0, a) else bR (j_Rows_placeOf i (lN ρa) (lN I) a) fun r56 st57 => bR (j_Rows_placeOf i (lN ρb) (lN J) st57) fun r59 st60 => ck (cpk r56 r59 (lN N).toInt32 192 192) (some (0, cL st60 7 i r56.toNatClampNeg 7 i r59.toNatClampNeg (lN N).toInt32.toNatClampNeg))) = some ((0 : Int32), cL a 7 i (16 * ρa + I) 7 i (16 * ρb + J) N) := by
  by_cases x0 : N = 0
  · subst x0
    rw [if_pos (show lg_cmp (lN 0) 0 ≤ 0 from by rw [lg_cmp_le]; exact Int64.le_refl _), cL_0]
  · rw [if_neg (show ¬ lg_cmp (lN N) 0 ≤ 0 from by rw [lg_cmp_le, Int64.le_iff_toInt_le, lN_toInt (by omega)]; show ¬ ((N : Int) ≤ 0); omega), q_plc, bR_s, q_plc, bR_s, lN_i]
    have ck2 : cpk (nI (16 * ρa + I)) (nI (16 * ρb + J)) (nI N) 192 192 = true := by
      refine decide_eq_true ?_
      rw [nI_toInt (by omega), nI_toInt (by omega), nI_toInt (by omega)]
      omega
    rw [ck_t ck2, nI_clamp (by omega), nI_clamp (by omega), nI_clamp (by omega)]
theorem g_23 (r : Rel a b i base T F S c bb n hn h (h + 5)) (hH : gI a 19 i 0 = nI (h + 5)) : Good a b i base T F S c bb (j_Rows_copyElements i a) (j_Mo_rowed i 23 (nI h) b) := by
  have q := r.hi
  have e0 : j_Mo_rowed i 23 (nI h) b = j_Mo_copied i (nI h) b := by
    unfold j_Mo_rowed
    simp (decide := true) only [if_false, if_true]
    rw [bV_id]
  rw [e0]
  have b0 : j_Pile_tookNumber i (0 : Int32) a = _ := tkB 0 (h + 4) hH rfl q.2.2.2
  have b1 : j_Pile_tookNumber i (1 : Int32) a = _ := tkB 1 (h + 3) hH rfl q.2.2.2
  have b2 : j_Pile_tookNumber i (2 : Int32) a = _ := tkB 2 (h + 2) hH rfl q.2.2.2
  have b3 : j_Pile_tookNumber i (3 : Int32) a = _ := tkB 3 (h + 1) hH rfl q.2.2.2
  have c2 : j_Pile_tookKind i (2 : Int32) a = _ := tkK 2 (h + 2) hH rfl q.2.2.2
  have c4 : j_Pile_tookKind i (4 : Int32) a = _ := tkK 4 h hH rfl q.2.2.2
  have t0 : j_Pile_took i (0 : Int32) a = _ := tkN 0 (h + 4) hH rfl q.2.2.2
  have t1 : j_Pile_took i (1 : Int32) a = _ := tkN 1 (h + 3) hH rfl q.2.2.2
  have t2 : j_Pile_took i (2 : Int32) a = _ := tkN 2 (h + 2) hH rfl q.2.2.2
  have t3 : j_Pile_took i (3 : Int32) a = _ := tkN 3 (h + 1) hH rfl q.2.2.2
  have t4 : j_Pile_took i (4 : Int32) a = _ := tkN 4 h hH rfl q.2.2.2
  unfold j_Rows_copyElements j_Mo_copied
  simp only [b0, b1, b2, b3, c2, c4, t0, t1, t2, t3, t4, bR_s, nI_1, nI_p2, nI_p3, nI_p4, mNb (show h < 13 by omega), mNb (show h + 1 < 13 by omega), mNb (show h + 3 < 13 by omega), mNb (show h + 4 < 13 by omega), r.kd h (by omega), r.kd (h + 1) (by omega), r.kd (h + 2) (by omega), r.kd (h + 3) (by omega), r.kd (h + 4) (by omega), ckn (show h < 13 by omega) (show h < 2 ^ 31 by omega), ckn (show h + 1 < 13 by omega) (show h + 1 < 2 ^ 31 by omega), ckn (show h + 2 < 13 by omega) (show h + 2 < 2 ^ 31 by omega), ckn (show h + 3 < 13 by omega) (show h + 3 < 2 ^ 31 by omega), ckn (show h + 4 < 13 by omega) (show h + 4 < 2 ^ 31 by omega), nI_clamp (show h < 2 ^ 31 by omega), nI_clamp (show h + 1 < 2 ^ 31 by omega), nI_clamp (show h + 2 < 2 ^ 31 by omega), nI_clamp (show h + 3 < 2 ^ 31 by omega), nI_clamp (show h + 4 < 2 ^ 31 by omega)]
  by_cases k4 : gI a 17 i (h + 4) = 0
  · by_cases k3 : gI a 17 i (h + 3) = 0
    · by_cases k1 : gI a 17 i (h + 1) = 0
      · simp only [k1, k3, k4, if_true, i10, if_false]
        by_cases n0 : gI a 17 i h = 3
        · simp only [n0, if_true]
          by_cases n2 : gI a 17 i (h + 2) = 3
          · simp only [n2, if_true]
            exact gd_fail 2 (by omega) r
          · simp only [n2, if_true, if_false]
            exact gd_fail 2 (by omega) r
        · by_cases n2 : gI a 17 i (h + 2) = 3
          · simp only [n0, n2, if_true, if_false]
            exact gd_fail 2 (by omega) r
          · simp only [n0, n2, if_false]
            by_cases s : gI a 17 i (h + 2) = gI a 17 i h
            · by_cases z0 : gI a 17 i h = 0
              · simp only [z0, s, if_true, i10, if_false]
                exact gd_fail 4 (by omega) r
              · simp only [z0, s, if_true, if_false]
                obtain ⟨kA, ρa, αa, la, p1, p2, p3, p4, p5, p6, p7, p8, p9, p10⟩ := (r.vr h (by omega)).row z0 n0
                obtain ⟨kB, ρb, αb, lb, s1, s2, s3, s4, s5, s6, s7, s8, s9, s10⟩ := (r.vr (h + 2) (by omega)).row (by rw [s]; exact z0) n2
                rw [r.nm (h + 1) (by omega) k1, r.nm (h + 3) (by omega) k3, r.nm (h + 4) (by omega) k4, p2, s2, p3, s3]
                simp only [ck_t (q_isRow p6), ck_t (q_isRow s6), Nat.add_sub_cancel, p7, s7, lN_len, nI_l (show la < 2 ^ 31 by omega), nI_l (show lb < 2 ^ 31 by omega)]
                generalize gL a 6 i (h + 4) = x
                generalize gL a 6 i (h + 1) = y
                generalize gL a 6 i (h + 3) = w
                by_cases ok : okR x y w la lb
                · rw [(q_clsC p1 p8 p9 s1 s8 s9 _).1 ok, (q_refC p8 s8).1 ok]
                  unfold okR at ok
                  obtain ⟨N, hN, eN⟩ := lN_of (x := x) (m := 16) (by omega) (by omega) (by omega)
                  obtain ⟨I, hI, eI⟩ := lN_of (x := y) (m := 16) (by omega) (by omega) (by omega)
                  obtain ⟨J, hJ, eJ⟩ := lN_of (x := w) (m := 16) (by omega) (by omega) (by omega)
                  subst eN eI eJ
                  rw [lN_toInt (by omega), lN_toInt (by omega), lN_toInt (by omega)] at ok
                  have r2 := r.copy (I := I) (J := J) (N := N) (pa := h) (pb := h + 2) (by omega) (by omega) kA kB p1 p2 p3 p5 p8 p10 s1 s2 s3 s5 s8 (by omega) (by omega)
                  have al : rAl (lN N).toInt32 = true := by
                    rw [lN_i]
                    refine decide_eq_true ?_
                    rw [nI_toInt (by omega)]
                    omega
                  have lo : j_Mo_copied_L207 18 i (nI h) (lN I) (lN J) (lN N) (αa + 1) (αb + 1) (gR b 101 2 + 1) 0 (rNew b (lN N).toInt32.toNatClampNeg) = some (0, cL (cL (rNew b N) 9 αa I 9 (gR b 101 2) 0 N) 9 (gR b 101 2) 0 9 αb J N) := by
                    rw [lN_i, nI_clamp (by omega)]
                    have e := q_207 (st := rNew b N) (x0 := i) (x1 := nI h) (I := I) (J := J) (N := N) (αa := αa) (αt := gR b 101 2) (αb := αb) (by refine q_isRow ?_; rw [rNew_103, if_neg (by omega)]; exact p6) (q_isRowNew b N) (by refine q_isRow ?_; rw [rNew_103, if_neg (by omega)]; exact s6) (by rw [rNew_100, if_pos rfl]; omega) (by rw [rNew_100, if_neg (by omega)]; omega) (by rw [rNew_100, if_neg (by omega)]; omega) hN hI hJ (by omega) (by omega) 18 0 rfl (Nat.zero_le _)
                    rw [cL_0] at e
                    exact e
                  have sm : SameM i base b (cL (cL (rNew b N) 9 αa I 9 (gR b 101 2) 0 N) 9 (gR b 101 2) 0 9 αb J N) := (((SameM.refl _ _ _).new _ r.hp.2.2.2).wC (by unfold mOkL; have := r.hp.2.2.2; omega)).wC (by unfold mOkL; omega)
                  simp only [bS, lo, ck_t al]
                  rw [q_clsK p1 s1 (by omega) (by omega)]
                  exact ⟨0, n, hn, h, _, _, rfl, rfl, by omega, r2, (SameC.refl _ _).wC (by unfold cOkL; omega), sm, rfl, Nat.le_refl _, Nat.add_le_add_left hN _⟩
                · rw [(q_clsC p1 p8 p9 s1 s8 s9 _).2 ok, (q_refC p8 s8).2 ok]
                  exact gd_fail 3 (by omega) r
            · have s' : ¬ gI a 17 i h = gI a 17 i (h + 2) := fun z => s z.symm
              by_cases z0 : gI a 17 i h = 0
              · by_cases z2 : gI a 17 i (h + 2) = 0
                · exact absurd (z2.trans z0.symm) s
                · simp only [z0, z2, if_true, if_false, i10]
                  exact gd_fail 4 (by omega) r
              · by_cases z2 : gI a 17 i (h + 2) = 0
                · simp only [z0, z2, if_true, if_false, i10]
                  exact gd_fail 4 (by omega) r
                · simp only [z0, z2, s, s', if_true, if_false, i10]
                  exact gd_fail 4 (by omega) r
      · simp only [k1, k3, k4, if_true, i10, if_false]
        exact gd_fail 4 (by omega) r
    · by_cases k1 : gI a 17 i (h + 1) = 0
      · simp only [k1, k3, k4, if_true, i10, if_false]
        exact gd_fail 4 (by omega) r
      · simp only [k1, k3, k4, if_true, i10, if_false]
        exact gd_fail 4 (by omega) r
  · by_cases k1 : gI a 17 i (h + 1) = 0
    · by_cases k3 : gI a 17 i (h + 3) = 0
      · simp only [k1, k3, k4, if_true, i10, if_false]
        exact gd_fail 4 (by omega) r
      · simp only [k1, k3, k4, if_true, i10, if_false]
        exact gd_fail 4 (by omega) r
    · simp only [k1, k4, if_true, i10, if_false]
      exact gd_fail 4 (by omega) r
