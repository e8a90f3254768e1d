-- PURE: a call, from its start to its end
variable {K : Nat → CwS → Option (Int32 × CwS)} {a b aC b39 : CwS} {i base r0 T F S c bb n hn h C B L : Nat} {v : Int64} (RAN RAN' : Nat → Int64 → CwS → Option (Int32 × CwS))
theorem lim_back {S T T' : Nat} (h1 : T ≤ T') (h2 : T' ≤ S) : nI (S - T) - (nI T' - nI T) = nI (S - T') := by
  rw [nI_sub h1, nI_sub (by omega), show S - T - (T' - T) = S - T' by omega]
theorem bEf_same {b39 b1 : CwS} {d i base c C : Nat} {v : Int64} {x4 : Int32} (hi : i < d) (hc : gI b39 13 0 0 = nI d) (SM : SameM d base (bUp (bMv (bH b39 d) c C v) d C) b1) : SameY d i base b39 (bEf b1 d d C x4) := by
  refine epi_same hi hc SM (fun j p => ?_) (fun j p => ?_) (fun k j p h4 h13 ho => ?_) (fun k j p hk2 hn4 => ?_) (fun k j => rfl)
  · show gI (sI (sI b1 13 0 0 (nI d)) 4 0 C (gI b1 4 0 C - 1)) 4 j p = _
    rw [gI_sI]
    by_cases z : j = 0 ∧ p = C
    · rw [if_pos (by omega), if_pos z]
    · rw [if_neg (by omega), if_neg z]; rfl
  · show gI (sI b1 13 0 0 (nI d)) 13 j p = _
    rw [gI_sI]
    by_cases z : j = 0 ∧ p = 0
    · rw [if_pos (by omega), if_pos z]
    · rw [if_neg (by omega), if_neg z]
  · unfold bEf
    rw [gI_sI, if_neg (by omega), gI_cL, gI_cL, gI_sI, if_neg (by omega), gI_sI, if_neg (by omega), gI_sI, if_neg (by omega)]
  · show gL (cL (cL b1 5 d 0 0 0 0 64) 6 d 0 1 0 0 8) k j p = _
    rw [gL_cL, if_neg (by omega), gL_cL, if_neg (by omega)]
theorem aUn_same {a a1 : CwS} {d i : Nat} (s : SameX d i a a1) : SameX d i a (aUn a1 d) := by
  unfold aUn
  exact ((((s.wI _ (by unfold cOkI; omega)).wC (by unfold cOkL; omega)).wC (by unfold cOkL; omega)).wI _ (by unfold cOkI; omega)).wI _ (by unfold cOkI; omega)
theorem bEf_0 {s : CwS} {f d C k : Nat} {x4 : Int32} (hk : ¬ k < 64) : gL (bEf s f d C x4) 0 0 k = gL s 0 0 k := by
  show gL (cL s 5 f 0 0 0 0 64) 0 0 k = _
  rw [gL_cL, if_neg (by omega)]
theorem bEf_1 {s : CwS} {f d C k : Nat} {x4 : Int32} (hk : ¬ k < 8) : gL (bEf s f d C x4) 1 0 k = gL s 1 0 k := by
  show gL (cL (cL s 5 f 0 0 0 0 64) 6 f 0 1 0 0 8) 1 0 k = _
  rw [gL_cL, if_neg (by omega)]; rfl
/-- both put back what was kept -/
theorem undo_led {a b a1 b1 : CwS} {d C : Nat} {x4 : Int32} (l : rLed a b) (l1 : rLed a1 b1) (k3 : ∀ k, k < 64 → gL a1 3 d k = gL a 0 0 k) (k4 : ∀ k, k < 8 → gL a1 4 d k = gL a 1 0 k) (k6 : gI a1 6 0 d = gI a 5 0 0) (h5 : ∀ k, k < 64 → gL b1 5 d k = gL b 0 0 k) (h6 : ∀ k, k < 8 → gL b1 6 d k = gL b 1 0 k) (hx : x4 = gI b 7 0 0) : rLed (aUn a1 d) (bEf b1 d d C x4) := by
  obtain ⟨p1, p2, p3, p4, e, p5, p6, p7⟩ := l
  obtain ⟨q1, q2, q3, q4, _⟩ := l1
  refine ⟨funext fun k => ?_, funext fun k => ?_, q3, q4, e, p5, ?_, ?_⟩
  · show gL (cL a1 3 d 0 0 0 0 64) 0 0 k = gL (cL b1 5 d 0 0 0 0 64) 0 0 k
    rw [gL_cL, gL_cL]
    by_cases z : k < 64
    · rw [if_pos (by omega), if_pos (by omega), Nat.sub_zero, Nat.zero_add, k3 k z, h5 k z, p1]
    · rw [if_neg (by omega), if_neg (by omega), q1]
  · show gL (cL (cL a1 3 d 0 0 0 0 64) 4 d 0 1 0 0 8) 1 0 k = gL (cL (cL b1 5 d 0 0 0 0 64) 6 d 0 1 0 0 8) 1 0 k
    rw [gL_cL (cL a1 3 d 0 0 0 0 64), gL_cL (cL b1 5 d 0 0 0 0 64)]
    by_cases z : k < 8
    · rw [if_pos (by omega), if_pos (by omega), Nat.sub_zero, Nat.zero_add]
      show gL a1 4 d k = gL b1 6 d k
      rw [k4 k z, h6 k z, p2]
    · rw [if_neg (by omega), if_neg (by omega)]
      show gL a1 1 0 k = gL b1 1 0 k
      rw [q2]
  · show gI a1 6 0 d = nI e
    rw [k6, p6]
  · show x4 = nI e
    rw [hx, p7]
theorem had5 {b b39 b1 : CwS} {d base c C k : Nat} {v : Int64} (SM : SameM d base (bUp (bMv (bH b39 d) c C v) d C) b1) (e : gL b39 0 0 = gL b 0 0) (hk : k < 64) : gL b1 5 d k = gL b 0 0 k := by
  rw [SM.2.1 5 d k (by unfold mOkL; omega)]
  show gL (cL b39 0 0 0 5 d 0 64) 5 d k = _
  rw [gL_cL, if_pos (by omega), Nat.sub_zero, Nat.zero_add, e]
theorem had6 {b b39 b1 : CwS} {d base c C k : Nat} {v : Int64} (SM : SameM d base (bUp (bMv (bH b39 d) c C v) d C) b1) (e : gL b39 1 0 = gL b 1 0) (hk : k < 8) : gL b1 6 d k = gL b 1 0 k := by
  rw [SM.2.1 6 d k (by unfold mOkL; omega)]
  show gL (cL (cL b39 0 0 0 5 d 0 64) 1 0 0 6 d 0 8) 6 d k = _
  rw [gL_cL, if_pos (by omega), Nat.sub_zero, Nat.zero_add]
  show gL b39 1 0 k = _
  rw [e]
theorem call_go (r : Rel a b i base T F S c bb n hn h (h + 3)) (g : h < 12) (hT0 : 0 < T) (ok : ArgOK a b i T F L c C B v aC b39) (hL : T + L ≤ S) (C8 : C < 8) (i9 : i + 1 < 10) (go : GoesOK K (i + 1) (gR b 101 2) (r0 + 1) T F (T + L) C B aC (bUp (bMv (bH b39 (i + 1)) c C v) (i + 1) C) (j_Mo_goes RAN' (i + 1) (bUp (bMv (bH b39 (i + 1)) c C v) (i + 1) C))) {x y : Option (Int32 × CwS)} (ex : cAft K r0 x = K (r0 + 1) aC) (ey : y = bR (j_Mo_ranB RAN' (i + 1) v b39) fun r41 st42 => mRet i (i + 1) (nI T) r41 st42) : CallOK K i base r0 T F S c bb n hn a b x y := by
  obtain ⟨okR, okX, okY, ⟨o1, o2, o3, o4, o5, o6⟩, ⟨o7, o8⟩, ⟨o9, o10⟩, ⟨o11, o12, o13⟩⟩ := ok
  obtain ⟨how, b', b1, a1, r', T', F', g1, g2, g3, g4, g5, g6, g7, g8⟩ := go
  have f := r.fr
  have f3 : c < 8 := f.2.2.1
  have hb : base ≤ gR b 101 2 := r.hp.2.2.2
  have q := r.hi
  rw [q_ranB RAN' o1 o2 C8 o3 f3, g1, bR_s] at ey
  have hp1 : gR (bUp (bMv (bH b39 (i + 1)) c C v) (i + 1) C) 101 2 = gR b39 101 2 := rfl
  have hp0 : gR (bUp (bMv (bH b39 (i + 1)) c C v) (i + 1) C) 101 0 = gR b39 101 0 := rfl
  have hp3 : gR (bUp (bMv (bH b39 (i + 1)) c C v) (i + 1) C) 101 3 = gR b39 101 3 := rfl
  have pot : ∀ b2 : CwS, gR b2 101 0 = gR b1 101 0 → gR b2 101 2 = gR b1 101 2 → gR b2 101 3 = gR b1 101 3 → Pot (T - 1) b T' b2 := by
    intro b2 e e' e''
    unfold Pot at *
    rw [e, e', e'']
    rw [hp0, hp1, hp3] at g4
    omega
  have sxa : SameX (i + 1) i a a1 := okX.trans (g2.mono (Nat.le_refl _) (Nat.le_succ _))
  right
  rcases g8 with ⟨e1, w, n', hn', h', e2, e3, rl⟩ | ⟨k, n', h', fu, k0, hk, e1, e2, hf, e3, rl⟩ | ⟨e1, e2, e3, rl⟩
  · -- it ends
    subst e1 e2
    have d1 := rl.dep.1
    have d2 := rl.dep.2.1
    have c1 : gI b1 14 (i + 1) 0 = nI C := rl.fr.2.1
    have hT' : T' ≤ T + L := rl.fr.2.2.2.2.2.2.2.2.2.1
    have hf10 : gR b1 101 0 ≤ 10 := rl.hp.2.2.1
    obtain ⟨m1, m2, m3, m4, m5, m6, m7, m8⟩ := rl.cnt
    rw [mE_w (s := sL b1 4 (i + 1) 0 w) (d := i + 1) d2 c1 C8, bR_s] at ey
    have sy : SameY (i + 1) i (gR b 101 2) b (bEw (sL b1 4 (i + 1) 0 w) (i + 1) C) := by
      refine okY.trans (epi_same (by omega) o1 g3 (fun j p => ?_) (fun j p => ?_) (fun k j p h4 h13 ho => ?_) (fun k j p hk2 hn4 => ?_) (fun k j => rfl))
      · show gI (sI (sI b1 13 0 0 (nI (i + 1))) 4 0 C (gI b1 4 0 C - 1)) 4 j p = _
        rw [gI_sI]
        by_cases z : j = 0 ∧ p = C
        · rw [if_pos (by omega), if_pos z]
        · rw [if_neg (by omega), if_neg z]; rfl
      · show gI (sI b1 13 0 0 (nI (i + 1))) 13 j p = _
        rw [gI_sI]
        by_cases z : j = 0 ∧ p = 0
        · rw [if_pos (by omega), if_pos z]
        · rw [if_neg (by omega), if_neg z]
      · unfold bEw
        rw [gI_sI, if_neg (by omega), gI_sI, if_neg (by omega), gI_sI, if_neg (by omega)]
        rfl
      · show gL (sL b1 4 (i + 1) 0 w) k j p = _
        rw [gL_sL, if_neg (by omega)]
    have rb := r.back (a2 := sI (sI a1 7 0 3 (gI a1 7 0 3 + 1)) 8 0 0 (nI (i + 1))) (b2 := bEw (sL b1 4 (i + 1) 0 w) (i + 1) C) (T2 := T') (F2 := F') ((sxa.wI _ (by unfold cOkI; omega)).wI _ (by unfold cOkI; omega)) sy rl.led (by
      refine ⟨m1, m2, m3, m4, m5, m6, ?_, m8⟩
      show gI a1 7 0 3 + 1 = gI b1 11 0 0 + 1
      rw [m7]) rfl (by omega) hf10
    have l17 : gI (bEw (sL b1 4 (i + 1) 0 w) (i + 1) C) 17 i 0 = nI (S - T) := (sy.1 17 i 0 (by unfold mOkI; omega)).trans f.2.2.2.2.2.2.2.2.1
    have l8 : gI (bEw (sL b1 4 (i + 1) 0 w) (i + 1) C) 8 0 0 = nI T' := m2
    have l4 : gL (sI (bEw (sL b1 4 (i + 1) 0 w) (i + 1) C) 17 i 0 (nI (S - T'))) 4 (i + 1) 0 = w := by
      show gL (sL b1 4 (i + 1) 0 w) 4 (i + 1) 0 = w
      rw [gL_sL]; simp
    have ry : y = some (0, bP (sI (bEw (sL b1 4 (i + 1) 0 w) (i + 1) C) 17 i 0 (nI (S - T'))) i h 0 w 0) := by
      rw [ey]
      unfold mRet
      rw [if_pos rfl, l17, l8, lim_back g5 (by omega), l4, q_number rb.hi.2.1 (by omega), bV_s]
    have hh1 : gI a1 18 i 0 = nI h := (sxa.1 18 i 0 (by unfold cOkI; omega)).trans q.1
    rw [q_endW d1 (by omega) hh1 g, bV_s] at e3
    refine ⟨_, _, r' + 1, T', F', h + 1, ?_, ?_, ?_, g5, g6, Or.inl ⟨ry, ex.trans e3, rb.push0 g 0 (Or.inl rfl) w, by omega⟩⟩
    · exact (((sxa.mono (Nat.le_succ i) (Nat.le_refl i)).wI _ (by unfold cOkI; omega)).wI _ (by unfold cOkI; omega)).put
    · exact ((sy.mono (Nat.le_succ i) (Nat.le_refl i) hb).wI _ (by unfold mOkI; omega)).put
    · exact pot _ rfl rfl rfl
  · -- it fails
    have e2' := e2.symm
    subst e1 e2'
    have d1 := rl.dep.1
    have d2 := rl.dep.2.1
    have c1 : gI b1 14 (i + 1) 0 = nI C := rl.fr.2.1
    have hT' : T' ≤ T + L := rl.fr.2.2.2.2.2.2.2.2.2.1
    have hf10 : gR b1 101 0 ≤ 10 := rl.hp.2.2.1
    obtain ⟨m1, m2, m3, m4, m5, m6, m7, m8⟩ := rl.cnt
    obtain ⟨_, _, _, _, _, k100, k99, _⟩ := kNeg k hk k0
    rw [mE_f k100 (d := i + 1) d2 c1 C8, bR_s] at ey
    have sy : SameY (i + 1) i (gR b 101 2) b (bEf b1 (i + 1) (i + 1) C (gI b39 7 0 0)) := okY.trans (bEf_same (by omega) o1 g3)
    have rb := r.back (a2 := aUn a1 (i + 1)) (b2 := bEf b1 (i + 1) (i + 1) C (gI b39 7 0 0)) (T2 := T') (F2 := F') (aUn_same sxa) sy (undo_led r.led rl.led (fun k hk => (g2.2.1 3 (i + 1) k (by unfold cOkL; omega)).trans (o11 k hk)) (fun k hk => (g2.2.1 4 (i + 1) k (by unfold cOkL; omega)).trans (o12 k hk)) ((g2.1 6 0 (i + 1) (by unfold cOkI; omega)).trans o13) (fun k hk => had5 g3 o7 hk) (fun k hk => had6 g3 o8 hk) o4) (by
      refine ⟨m1, m2, m3, m4, m5, m6, m7, ?_⟩
      show gI a1 7 0 4 + 1 = gI b1 12 0 0 + 1
      rw [m8]) rfl (by omega) hf10
    have l17 : gI (bEf b1 (i + 1) (i + 1) C (gI b39 7 0 0)) 17 i 0 = nI (S - T) := (sy.1 17 i 0 (by unfold mOkI; omega)).trans f.2.2.2.2.2.2.2.2.1
    have l8 : gI (bEf b1 (i + 1) (i + 1) C (gI b39 7 0 0)) 8 0 0 = nI T' := m2
    have ry : y = some (-nI k, sI (bEf b1 (i + 1) (i + 1) C (gI b39 7 0 0)) 17 i 0 (nI (S - T'))) := by
      rw [ey]
      unfold mRet
      rw [if_neg k100, if_neg k99, l17, l8, lim_back g5 (by omega)]
    obtain ⟨f', rfl⟩ : ∃ f', fu = f' + 1 := ⟨fu - 1, by omega⟩
    rw [q_failU d1 (by omega) rl.han.1] at e3
    refine ⟨_, _, r', T', F', h, ?_, ?_, ?_, g5, g6, Or.inr (Or.inl ⟨k, f', k0, hk, by omega, ry, ex.trans e3, rb, by omega⟩)⟩
    · exact (aUn_same sxa).mono (Nat.le_succ i) (Nat.le_refl i)
    · exact (sy.mono (Nat.le_succ i) (Nat.le_refl i) hb).wI _ (by unfold mOkI; omega)
    · exact pot _ rfl rfl rfl
  · -- the run is out of failures
    have e2' := e2.symm
    subst e1 e2'
    obtain ⟨x1, x2, x3, x4, x5, ⟨m1, m2, m3, m4, m5, m6, m7⟩, x7, x8, ⟨y1, y2, y3, y4⟩, c1⟩ := rl
    have d2 : gI b1 13 0 0 = nI (i + 1 + 1) := (g3.1 13 0 0 (by unfold mOkI; omega)).trans rfl
    rw [mE_f (by decide) (d := i + 1) d2 c1 C8, bR_s] at ey
    have sy : SameY (i + 1) i (gR b 101 2) b (bEf b1 (i + 1) (i + 1) C (gI b39 7 0 0)) := okY.trans (bEf_same (by omega) o1 g3)
    have l17 : gI (bEf b1 (i + 1) (i + 1) C (gI b39 7 0 0)) 17 i 0 = nI (S - T) := (sy.1 17 i 0 (by unfold mOkI; omega)).trans f.2.2.2.2.2.2.2.2.1
    have l8 : gI (bEf b1 (i + 1) (i + 1) C (gI b39 7 0 0)) 8 0 0 = nI T' := m2
    have ry : y = some (99, sI (bEf b1 (i + 1) (i + 1) C (gI b39 7 0 0)) 17 i 0 (nI (S - T'))) := by
      rw [ey]
      unfold mRet
      rw [if_neg (by decide), if_pos rfl, l17, l8, lim_back g5 (by omega)]
    refine ⟨a1, sI (bEf b1 (i + 1) (i + 1) C (gI b39 7 0 0)) 17 i 0 (nI (S - T')), r', T', F', h, sxa.mono (Nat.le_succ i) (Nat.le_refl i), ?_, pot _ rfl rfl rfl, g5, g6, Or.inr (Or.inr ⟨ry, ex.trans e3, ⟨x1, x2, x3, fun k hk => ?_, fun k hk => ?_, ⟨m1, m2, m3, m4, m5, m6, m7⟩, ?_, by omega, ⟨by omega, by show i < gR b1 101 0; omega, y3, by show base ≤ gR b1 101 2; omega⟩, (sy.1 14 i 0 (by unfold mOkI; omega)).trans f.2.1⟩, by omega⟩)⟩
    · exact (sy.mono (Nat.le_succ i) (Nat.le_refl i) hb).wI _ (by unfold mOkI; omega)
    · rw [x4 k hk]
      exact (bEf_0 (x4 := gI b39 7 0 0) (by omega)).symm
    · rw [x5 k hk]
      exact (bEf_1 (x4 := gI b39 7 0 0) (by omega)).symm
    · show gI a1 7 0 4 + gI a1 8 0 0 = gI b1 12 0 0 + 1 + nI (i + 1)
      rw [x7, ← nI_1, Int32.add_assoc, Int32.add_comm 1]
/-- the limit that is given on -/
theorem q_lim {y : Int64} {m : Nat} (hm : m ≤ 600) : ∃ L, L ≤ m ∧ (if (if (nI m).toInt64 < y then (nI m).toInt64 else y) < (0 : Int64) then (0 : Int64) else (if (nI m).toInt64 < y then (nI m).toInt64 else y)).toInt32 = nI L := by
  rw [nI_l (by omega)]
  have z : (0 : Int64).toInt = 0 := rfl
  by_cases h1 : lN m < y
  · rw [if_pos h1, if_neg (fun g => by rw [Int64.lt_iff_toInt_lt, lN_toInt (by omega)] at g; omega), lN_i]
    exact ⟨m, Nat.le_refl _, rfl⟩
  · rw [if_neg h1]
    by_cases h2 : y < 0
    · rw [if_pos h2]
      exact ⟨0, Nat.zero_le _, rfl⟩
    · rw [if_neg h2]
      rw [Int64.lt_iff_toInt_lt, lN_toInt (by omega)] at h1
      rw [Int64.lt_iff_toInt_lt] at h2
      obtain ⟨j, hj, e⟩ := lN_of (x := y) (m := m) (by omega) (by omega) (by omega)
      exact ⟨j, hj, by rw [e, lN_i]⟩
theorem q_copyA {aM : CwS} {d i ρ m : Nat} {kd : Int32} (hd : gI aM 18 d 0 = nI 0) (h1 : ρ < 12) (h9 : gI aM 20 i ρ = nI m) (h8 : m ≤ 16) : ∃ ρ', ρ' < 12 ∧ j_Rows_putCopy d kd i (lN ρ) aM = some (0, aP (cL (sI aM 20 d ρ' (nI m)) 7 i (16 * ρ) 7 d (16 * ρ') m) d 0 kd (lN ρ')) := by
  obtain ⟨ρ', hρ, ef, _⟩ := q_free (b := aM) (base := 0) hd (by omega) ⟨fun p hp => by omega, fun p q hp => by omega⟩
  refine ⟨ρ', hρ, ?_⟩
  unfold j_Rows_putCopy
  have e1 : gI (sI aM 20 d ρ' (nI m)) 20 d ρ' = nI m := gI_self _ _ _ _ _
  have e2 : gI (sI aM 20 d ρ' (nI m)) 18 d 0 = nI 0 := hd
  rw [ef, bR_s, if_pos (nI_pos' (by omega)), q_len h1 h9, bR_s, ckn hρ (by omega), ckn hρ (by omega), nI_clamp (by omega), e1]
  by_cases z : m = 0
  · subst z
    rw [if_pos (by decide), nI_l (by omega), q_put e2 (by omega), bR_s, cL_0]
  · have p1 : ∀ st : CwS, j_Rows_placeOf i (lN ρ) 0 st = some (nI (16 * ρ), st) := fun st => q_plc (k := 0)
    have p2 : ∀ st : CwS, j_Rows_placeOf d (lN ρ') 0 st = some (nI (16 * ρ'), st) := fun st => q_plc (k := 0)
    have ck2 : cpk (nI (16 * ρ)) (nI (16 * ρ')) (nI m) 192 192 = true := by
      refine decide_eq_true ?_
      rw [nI_toInt (by omega), nI_toInt (by omega), nI_toInt (by omega)]
      omega
    rw [if_neg (nI_nle (by omega) (by omega)), p1, bR_s, nI_l (by omega), p2, bR_s, e1, ckn hρ (by omega), ck_t ck2, nI_clamp (by omega), nI_clamp (by omega), nI_clamp (by omega), q_put (a := cL (sI aM 20 d ρ' (nI m)) 7 i (16 * ρ) 7 d (16 * ρ') m) e2 (by omega), bR_s]
theorem CallOK.of {a' b' : CwS} {x y : Option (Int32 × CwS)} (g : CallOK K i base r0 T F S c bb n hn a' b' x y) (s1 : SameC i a a') (s2 : SameM i base b b') (h0 : gR b' 101 0 = gR b 101 0) (h2 : gR b' 101 2 = gR b 101 2) (h3 : gR b' 101 3 = gR b 101 3) : CallOK K i base r0 T F S c bb n hn a b x y := by
  rcases g with g | ⟨a2, b2, r2, T2, F2, h', t1, t2, p, hT, hF, w⟩
  · exact Or.inl (g.of s1 s2 h0 h2 h3)
  · refine Or.inr ⟨a2, b2, r2, T2, F2, h', s1.trans t1, s2.trans t2, ?_, hT, hF, w⟩
    unfold Pot at *
    rw [← h0, ← h2, ← h3]
    exact p
theorem q_L225 {b : CwS} {i h d α m : Nat} {v : Int64} (h5 : α < gR b 101 2) (h6 : gR b 103 α = 1) (h7 : gR b 100 α = m) (h8 : m ≤ 16) : j_Mo_calls_L225 RAN i (nI h) v d (α + 1) b = j_Mo_calls_L244 RAN i (nI h) v d (gR b 101 2 + 1) (cL (rNew b m) 9 α 0 9 (gR b 101 2) 0 m) := by
  unfold j_Mo_calls_L225
  have al : rAl (nI m) = true := by
    refine decide_eq_true ?_
    rw [nI_toInt (by omega)]
    omega
  have e0 : Int32.ofNat m = nI m := rfl
  have e1 : gR (rNew b m) 100 α = m := by rw [rNew_100, if_neg (by omega)]; exact h7
  have e2 : gR (rNew b m) 100 (gR b 101 2) = m := by rw [rNew_100, if_pos rfl]
  have i1 : isRow (rNew b m) (α + 1) = true := q_isRow (by rw [rNew_103, if_neg (by omega)]; exact h6)
  have cp : cpk 0 0 (nI m) m m = true := by
    refine decide_eq_true ?_
    rw [nI_toInt (by omega), show (0 : Int32).toInt = 0 from rfl]
    omega
  simp only [bS, Nat.add_sub_cancel, h7, e0, nI_clamp (show m < 2 ^ 31 by omega), e1, e2, ck_t (q_isRow h6), ck_t al, ck_t i1, ck_t (q_isRowNew b m), ck_t cp, z32_0]
theorem call_mid (r : Rel a b i base T F S c bb n hn h (h + 3)) (hH : gI a 19 i 0 = nI (h + 3)) (hT0 : 0 < T) (hR : i + 1 < 10 → ∀ f v st, RAN f v st = j_Mo_ranB RAN' f v st) (hG : i + 1 < 10 → ∀ (base S c bb : Nat) (a b : CwS) (r T F n hn h : Nat), Rel a b (i + 1) base T F S c bb n hn h h → gL b 4 (i + 1) 0 = 0 → r ≤ 2 * T + F → GoesOK K (i + 1) base r T F S c bb a b (j_Mo_goes RAN' (i + 1) b)) (hr : r0 + 2 ≤ 2 * T + F) (x : Int32) : CallOK K i base r0 T F S c bb n hn a b (j_Walk_callOther i x a) (j_Mo_done_L202 RAN i 29 x (nI h) b) := by
  obtain ⟨m, hm, m1, m2, _⟩ := r.cntB
  rw [d_went RAN (by decide) (by decide) (by decide) (by decide) (by decide) (by decide) (by decide), w_29 RAN r m2]
  have q := r.hi
  have f := r.fr
  have f3 : c < 8 := f.2.2.1
  have f10 : T ≤ S := f.2.2.2.2.2.2.2.2.2.1
  have f11 : S ≤ 600 := f.2.2.2.2.2.2.2.2.2.2
  have i9' : i < 10 := r.hp.1
  obtain ⟨d1, d2, d3⟩ := r.cnt
  have t1 : j_Pile_tookNumber i (1 : Int32) a = _ := tkB 1 (h + 1) hH rfl q.2.2.2
  have t2 : j_Pile_tookNumber i (2 : Int32) a = _ := tkB 2 h hH rfl q.2.2.2
  have t3 : j_Pile_took i (2 : Int32) a = _ := tkN 2 h hH rfl q.2.2.2
  have t4 : j_Pile_took i (1 : Int32) a = _ := tkN 1 (h + 1) hH rfl q.2.2.2
  by_cases k1 : gI a 17 i (h + 1) = 0
  · by_cases k0 : gI a 17 i h = 0
    · have ec : ∀ st : CwS, j_Walk_callOther i x a = bR (j_Walk_callFailure (nI c) (gL a 6 i h) x a) fun r12 st13 => if r12 = ((0 : Int32)) then ck (ix ((0 : Int32)) 5) (bR (j_Pile_took i ((1 : Int32)) st13) fun r17 st18 => bR (j_Book_find (x / ((8 : Int32))) (x - x / ((8 : Int32)) * ((8 : Int32))) st18) fun r20 st21 => ck (decide (r20 < 48)) (bR (j_Walk_open r20 (x / ((8 : Int32))) (gI st21 13 i 0) ((if (if (((gI st13 16 i 0) - (gI st13 7 0 (((0 : Int32)).toNatClampNeg))).toInt64) < r17 then (((gI st13 16 i 0) - (gI st13 7 0 (((0 : Int32)).toNatClampNeg))).toInt64) else r17) < ((0 : Int64)) then ((0 : Int64)) else (if (((gI st13 16 i 0) - (gI st13 7 0 (((0 : Int32)).toNatClampNeg))).toInt64) < r17 then (((gI st13 16 i 0) - (gI st13 7 0 (((0 : Int32)).toNatClampNeg))).toInt64) else r17)).toInt32) st21) fun r24 st25 => ck (decide (r24 < 10)) (bV (j_Ledger_move (gI st25 13 i 0) (x / ((8 : Int32))) (gL a 6 i h) st25) fun st29 => cArg i r24 st29))) else some (r12, st13) := by
        intro st
        unfold j_Walk_callOther
        simp only [t1, t2, t3, bR_s, k0, k1, if_true, i10, if_false, f.1]
        rfl
      rw [ec a]
      rcases callT RAN r (by omega) (gL a 6 i h) (r.nm h (by omega) k0) ((r.kd h (by omega)).trans k0) ((r.kd (h + 1) (by omega)).trans k1) x with ⟨k, k0', kl, e1, e2⟩ | ⟨X, C, B, C8, B6, i9, _, x1, x2, e1, e2⟩
      · rw [e1, e2, bR_s, if_neg (nI_ne0 k0' (by omega))]
        exact Or.inl (gd_fail k kl r)
      · rw [e1, e2, bR_s, if_pos rfl, ck_t ix5.1, t4, bR_s, x2, x1]
        obtain ⟨L, hL, eL⟩ := q_lim (y := gL a 6 i (h + 1)) (m := S - T) (by omega)
        have ef : j_Book_find (nI C) (nI B) a = some (6 * C + B, a) := by
          unfold j_Book_find
          rw [nI_m6, ckn (by omega) (by omega), nI_clamp (by omega)]
        rw [ef, bR_s, ck_t (decide_eq_true (by omega)), z32_0, d1, f.2.2.2.2.2.2.2.1, nI_sub f10, eL, f.1, q_open r.dep.1 i9, bR_s, ck_t (decide_eq_true i9), d1, nI_add]
        have eo : gI (aOp a (i + 1) (6 * C + B) (nI C) (nI c) (nI (T + L))) 13 i 0 = nI c := ((aOp_same (i := i) (a := a) (d := i + 1) (by omega)).1 13 i 0 (by unfold cOkI; omega)).trans f.1
        rw [eo, q_move f3 C8, bV_s]
        -- the reference's frame
        unfold j_Mo_calls_L149
        have hp := r.hp
        have hp2 : i < gR b 101 0 := hp.2.1
        obtain ⟨bG, eb, fg⟩ := q_frame (b := b) (d := i + 1) r.dep.2.1 (by omega) i9 hp.2.2.1 (nI C) (nI c) (nI B) (nI L)
        rw [nI_1, nI_p2, ckn (show h + 1 < 13 by omega) (by omega), nI_clamp (show h + 1 < 2 ^ 31 by omega), r.nm (h + 1) (by omega) k1, f.2.1, f.2.2.2.2.2.2.2.2.1, eL, eb, bR_s]
        have hbd : i + 1 < gR (bBeg bG (i + 1) (nI C) (nI c) (nI B) (nI L)) 101 0 := fg.2.2.2.1
        have bk : gI (bBeg bG (i + 1) (nI C) (nI c) (nI B) (nI L)) 21 i (h + 2) = gI a 17 i (h + 2) := (fg.1 21 i (h + 2) (by omega)).trans (r.kd (h + 2) (by omega))
        have bn : gL (bBeg bG (i + 1) (nI C) (nI c) (nI B) (nI L)) 7 i (h + 2) = gL b 7 i (h + 2) := fg.2.1 7 i (h + 2) (by omega)
        have br : gR (bBeg bG (i + 1) (nI C) (nI c) (nI B) (nI L)) 50 (16 * i + (h + 2)) = gR b 50 (16 * i + (h + 2)) := fg.2.2.1 50 _ (by omega) (by omega) (by omega)
        have b8 : gI (bBeg bG (i + 1) (nI C) (nI c) (nI B) (nI L)) 8 0 0 = nI T := (fg.1 8 0 0 (by omega)).trans d2
        have b18 : gI (bBeg bG (i + 1) (nI C) (nI c) (nI B) (nI L)) 18 (i + 1) 0 = nI 0 := gI_self _ 18 (i + 1) 0 _
        have a18 : gI (bMv (aOp a (i + 1) (6 * C + B) (nI C) (nI c) (nI (T + L))) c C (gL a 6 i h)) 18 (i + 1) 0 = nI 0 := gI_self _ 18 (i + 1) 0 _
        have tk : j_Pile_tookKind i (0 : Int32) (bMv (aOp a (i + 1) (6 * C + B) (nI C) (nI c) (nI (T + L))) c C (gL a 6 i h)) = some (gI a 17 i (h + 2), bMv (aOp a (i + 1) (6 * C + B) (nI C) (nI c) (nI (T + L))) c C (gL a 6 i h)) := tkK 0 (h + 2) (a := bMv (aOp a (i + 1) (6 * C + B) (nI C) (nI c) (nI (T + L))) c C (gL a 6 i h)) hH rfl q.2.2.2
        have tn : j_Pile_took i (0 : Int32) (bMv (aOp a (i + 1) (6 * C + B) (nI C) (nI c) (nI (T + L))) c C (gL a 6 i h)) = some (gL a 6 i (h + 2), bMv (aOp a (i + 1) (6 * C + B) (nI C) (nI c) (nI (T + L))) c C (gL a 6 i h)) := tkN 0 (h + 2) (a := bMv (aOp a (i + 1) (6 * C + B) (nI C) (nI c) (nI (T + L))) c C (gL a 6 i h)) hH rfl q.2.2.2
        rw [ck_t (decide_eq_true hbd), ckn (show h + 2 < 13 by omega) (by omega), ckn (show h + 2 < 13 by omega) (by omega), ckn (show h + 2 < 13 by omega) (by omega), nI_clamp (show h + 2 < 2 ^ 31 by omega), bk, br]
        unfold cArg
        rw [tk, bR_s, tn, bR_s]
        have fin : ∀ (aC b39 : CwS), ArgOK a b i T F L c C B (gL a 6 i h) aC b39 → CallOK K i base r0 T F S c bb n hn a b (some (0, aC)) (bR (RAN (i + 1) (gL a 6 i h) b39) fun r41 st42 => mRet i (i + 1) (nI T) r41 st42) := by
          intro aC b39 ok
          refine call_go RAN' r (by omega) hT0 ok (by omega) C8 i9 (hG i9 _ _ _ _ aC _ (r0 + 1) T F 0 0 1 ok.1 ok.2.2.2.1.2.2.2.2.2 (by omega)) ?_ ?_
          · unfold cAft
            rw [bR_s, if_pos rfl, bV_s]
          · rw [hR i9]
        rcases r.vr (h + 2) (by omega) with ⟨hk, ev, e0⟩ | ⟨hk, ρ, α, m, h1, h2, h3, h4, h5, h6, h7, h8, h9, h10⟩
        · have n1 : ¬ gI a 17 i (h + 2) = 1 := by rcases hk with z | z <;> rw [z] <;> decide
          have n2 : ¬ gI a 17 i (h + 2) = 2 := by rcases hk with z | z <;> rw [z] <;> decide
          rw [if_neg n1, if_neg n2, if_neg n1, if_neg n2, bR_s, q_put a18 (by omega), bR_s, q_L244 RAN (by omega) b18 (Or.inl rfl), bk, bn, b8, ← ev]
          exact fin _ _ (arg_num r fg i9 C8 B6 (by omega) hk)
        · obtain ⟨ρ', hρ', ep⟩ := q_copyA (aM := bMv (aOp a (i + 1) (6 * C + B) (nI C) (nI c) (nI (T + L))) c C (gL a 6 i h)) (kd := gI a 17 i (h + 2)) a18 h1 h9 h8
          have g5 : α < gR (bBeg bG (i + 1) (nI C) (nI c) (nI B) (nI L)) 101 2 := by
            show α < gR bG 101 2
            have := fg.2.2.2.2.2.2.1
            have := fg.2.2.2.2.2.1
            omega
          have g6 : gR (bBeg bG (i + 1) (nI C) (nI c) (nI B) (nI L)) 103 α = 1 := (fg.2.2.1 103 α (by omega) (by omega) (by omega)).trans h6
          have g7 : gR (bBeg bG (i + 1) (nI C) (nI c) (nI B) (nI L)) 100 α = m := (fg.2.2.1 100 α (by omega) (by omega) (by omega)).trans h7
          have rf : ∀ z : Option (Int32 × CwS), j_Mo_calls_L225 RAN i (nI h) (gL a 6 i h) (i + 1) (α + 1) (bBeg bG (i + 1) (nI C) (nI c) (nI B) (nI L)) = bR (RAN (i + 1) (gL a 6 i h) (bP (cL (rNew (bBeg bG (i + 1) (nI C) (nI c) (nI B) (nI L)) m) 9 α 0 9 (gR bG 101 2) 0 m) (i + 1) 0 (gI a 17 i (h + 2)) (gL b 7 i (h + 2)) (gR bG 101 2 + 1))) fun r41 st42 => mRet i (i + 1) (nI T) r41 st42 := by
            intro z
            rw [q_L225 RAN g5 g6 g7 h8, q_L244 RAN (by omega) (b := cL (rNew (bBeg bG (i + 1) (nI C) (nI c) (nI B) (nI L)) m) 9 α 0 9 (gR (bBeg bG (i + 1) (nI C) (nI c) (nI B) (nI L)) 101 2) 0 m) b18 (Or.inr (q_isRowNew (bBeg bG (i + 1) (nI C) (nI c) (nI B) (nI L)) m))]
            have y1 : gI (cL (rNew (bBeg bG (i + 1) (nI C) (nI c) (nI B) (nI L)) m) 9 α 0 9 (gR (bBeg bG (i + 1) (nI C) (nI c) (nI B) (nI L)) 101 2) 0 m) 21 i (h + 2) = gI a 17 i (h + 2) := bk
            have y2 : gL (cL (rNew (bBeg bG (i + 1) (nI C) (nI c) (nI B) (nI L)) m) 9 α 0 9 (gR (bBeg bG (i + 1) (nI C) (nI c) (nI B) (nI L)) 101 2) 0 m) 7 i (h + 2) = gL b 7 i (h + 2) := bn
            have y3 : gI (cL (rNew (bBeg bG (i + 1) (nI C) (nI c) (nI B) (nI L)) m) 9 α 0 9 (gR (bBeg bG (i + 1) (nI C) (nI c) (nI B) (nI L)) 101 2) 0 m) 8 0 0 = nI T := b8
            rw [y1, y2, y3]
            rfl
          have ok := arg_row (w := gL b 7 i (h + 2)) (v := gL a 6 i h) r fg i9 C8 B6 (show T + L ≤ 600 by omega) hk h1 hρ' h5 h8 h10
          rw [h2, h3, ep, bR_s]
          rcases hk with z | z
          · rw [if_pos z, if_pos z, rf none]
            exact fin _ _ ok
          · have n1 : ¬ gI a 17 i (h + 2) = 1 := by rw [z]; decide
            rw [if_neg n1, if_pos z, if_neg n1, if_pos z, rf none]
            exact fin _ _ ok
    · unfold j_Walk_callOther j_Mo_calls
      simp only [t1, t2, bR_s, nI_1, mNb (show h < 13 by omega), mNb (show h + 1 < 13 by omega), r.kd h (by omega), r.kd (h + 1) (by omega), k0, k1, if_true, i10, if_false]
      exact Or.inl (gd_fail 4 (by omega) r)
  · unfold j_Walk_callOther j_Mo_calls
    simp only [t1, bR_s, nI_1, mNb (show h + 1 < 13 by omega), r.kd (h + 1) (by omega), k1, if_true, if_false]
    exact Or.inl (gd_fail 4 (by omega) r)
/-- code 29 -/
theorem call_main (hR : i + 1 < 10 → ∀ f v st, RAN f v st = j_Mo_ranB RAN' f v st) (hG : i + 1 < 10 → ∀ (base S c bb : Nat) (a b : CwS) (r T F n hn h : Nat), Rel a b (i + 1) base T F S c bb n hn h h → gL b 4 (i + 1) 0 = 0 → r ≤ 2 * T + F → GoesOK K (i + 1) base r T F S c bb a b (j_Mo_goes RAN' (i + 1) b)) (r : Rel a b i base T F S c bb n hn h h) (hT0 : 0 < T) (hr : r0 + 2 ≤ 2 * T + F) (x : Int32) : CallOK K i base r0 T F S c bb n hn a b (j_Walk_perform i (nI 29) x a) (mBody RAN i (nI 29) x b) := by
  rcases pf_gen RAN r (k := 29) (t := 3) (m := 1) (by omega) rfl rfl (by omega) (by omega) (fun st => rfl) (by decide) x with ⟨⟨h1, h2⟩, e1, e2⟩ | ⟨e1, e2⟩
  · rw [e1, e2, cB_29, mB_29]
    have r2 := r.take (t := 3)
    have hH : gI (aT a i h 3) 19 i 0 = nI h := aT_19
    obtain ⟨h', rfl⟩ : ∃ h', h = h' + 3 := ⟨h - 3, by omega⟩
    rw [Nat.add_sub_cancel] at r2 ⊢
    exact (call_mid RAN RAN' r2 hH hT0 hR hG hr x).of aT_same bT_same rfl rfl rfl
  · rw [e1, e2]
    exact Or.inl (gd_fail 11 (by omega) r)
