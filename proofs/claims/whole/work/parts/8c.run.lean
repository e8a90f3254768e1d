-- PURE: a run
theorem goes_lvl {K : Nat → CwS → Option (Int32 × CwS)} (hK : KP K) : ∀ (d i : Nat), i + d = 9 → ∀ (base S c bb : Nat) (a b : CwS) (r T F n hn h : Nat), Rel a b i base T F S c bb n hn h h → gL b 4 i 0 = 0 → r ≤ 2 * T + F → GoesOK K i base r T F S c bb a b (j_Mo_goes (j_Mo_ran (d + 1)) i b) := by
  intro d
  induction d with
  | zero =>
    intro i hi base S c bb a b r T F n hn h r0 hg hr
    obtain ⟨m, hm, m1, m2, _⟩ := r0.cntB
    have f := r0.fr
    have f3 : c < 8 := f.2.2.1
    have f6 : bb < 6 := f.2.2.2.2.2.1
    have f11 : S ≤ 600 := f.2.2.2.2.2.2.2.2.2.2
    unfold j_Mo_goes
    rw [f.2.1, f.2.2.2.2.1, nI_6m, ckn (by omega) (by omega), nI_clamp (by omega), m2]
    exact goes_main (j_Mo_ran 1) hK (fun a b r T F n hn h x r1 _ h0 h2 => call_main (j_Mo_ran 1) (j_Mo_ran 1) (fun z => by omega) (fun z => by omega) r1 h0 h2 x) hm 100000 a b r T F n hn h (by omega) r0 ⟨hg, m2⟩ hr
  | succ d ih =>
    intro i hi base S c bb a b r T F n hn h r0 hg hr
    obtain ⟨m, hm, m1, m2, _⟩ := r0.cntB
    have f := r0.fr
    have f3 : c < 8 := f.2.2.1
    have f6 : bb < 6 := f.2.2.2.2.2.1
    have f11 : S ≤ 600 := f.2.2.2.2.2.2.2.2.2.2
    unfold j_Mo_goes
    rw [f.2.1, f.2.2.2.2.1, nI_6m, ckn (by omega) (by omega), nI_clamp (by omega), m2]
    exact goes_main (j_Mo_ran (d + 1 + 1)) hK (fun a b r T F n hn h x r1 _ h0 h2 => call_main (j_Mo_ran (d + 1 + 1)) (j_Mo_ran (d + 1)) (fun _ f v st => rfl) (fun _ => ih (i + 1) (by omega)) r1 h0 h2 x) hm 100000 a b r T F n hn h (by omega) r0 ⟨hg, m2⟩ hr
/-- between two calls of the object -/
def Rel0 (a b : CwS) : Prop := rBook a b ∧ rLed a b ∧ (gI a 7 0 0 = gI b 8 0 0 ∧ gI a 7 0 1 = gI b 9 0 0 ∧ gI a 7 0 2 = gI b 10 0 0 ∧ gI a 7 0 3 = gI b 11 0 0 ∧ gI a 7 0 4 = gI b 12 0 0) ∧ gL a 5 0 0 = gL b 3 0 0 ∧ (∀ c, c < 8 → gI b 4 0 c = 0) ∧ gR b 101 0 ≤ 10
/-- what a call makes, at most -/
def RoomR (b b' : CwS) : Prop := gR b 101 0 ≤ gR b' 101 0 ∧ gR b' 101 2 + 8 * gR b 101 0 ≤ gR b 101 2 + 600 + 8 * gR b' 101 0 ∧ gR b' 101 3 + 134 * gR b 101 0 ≤ gR b 101 3 + 9600 + 134 * gR b' 101 0
def KG (x1 x2 : Int32) (x3 : Int64) (x5 : Int32) (x6 : Nat) (r : Nat) (a : CwS) : Option (Int32 × CwS) := j_Walk_go_L78 (1000001 - r) x1 x2 x3 x5 x6 (nI r) a
theorem KG_kp (x1 x2 : Int32) (x3 : Int64) (x5 : Int32) (x6 : Nat) : KP (KG x1 x2 x3 x5 x6) := by
  intro r a d hr hd h10
  unfold KG
  have e : 1000001 - r = (1000001 - (r + 1)) + 1 := by omega
  rw [e, j_Walk_go_L78, if_neg (show ¬ (1000000 : Int32) ≤ nI r from nI_ge (b := 1000000) hr (by omega)), hd, if_neg (nI_nle (by omega) (by omega)), nI_pred, ckn h10 (by omega), nI_clamp (by omega), nI_1]
theorem KG_0 (x1 x2 : Int32) (x3 : Int64) (x5 : Int32) (x6 : Nat) {r : Nat} {a : CwS} (hr : r < 1000000) (hd : gI a 8 0 0 = nI 0) : KG x1 x2 x3 x5 x6 r a = some (gI a 9 0 0, a) := by
  unfold KG
  have e : 1000001 - r = (1000001 - (r + 1)) + 1 := by omega
  rw [e, j_Walk_go_L78, if_neg (show ¬ (1000000 : Int32) ≤ nI r from nI_ge (b := 1000000) hr (by omega)), hd, if_pos (show nI 0 ≤ (0 : Int32) from by decide)]
/-- the class's state when a run begins -/
def aCl (a : CwS) : CwS := sL (sI (sI (sI (sI (sI (sI (sI (sI a 7 0 0 0) 7 0 1 0) 7 0 2 0) 7 0 3 0) 7 0 4 0) 5 0 0 0) 8 0 0 0) 9 0 0 0) 5 0 0 0
def bCl (b : CwS) : CwS := sI (sI (sI (sI (sI (sI (sL (sI b 7 0 0 0) 3 0 0 0) 8 0 0 0) 9 0 0 0) 10 0 0 0) 11 0 0 0) 12 0 0 0) 13 0 0 0
theorem q_L3 (f : Nat) (x1 x2 : Int32) (x3 : Int64) (x5 : Int32) (st : CwS) : j_Walk_go_L3 (f + 6) x1 x2 x3 x5 0 st = bR (j_Book_find x1 x2 (aCl st)) fun r2 st3 => ck (decide (r2 < 48)) (bR (j_Walk_open r2 x1 (-1) x5 st3) fun r6 st7 => ck (decide (r6 < 10)) (bR (j_Pile_putNumber r6 x3 st7) fun r10 st11 => j_Walk_go_L78 1000001 x1 x2 x3 x5 r6 0 st11)) := by
  rw [j_Walk_go_L3, if_neg (by decide), ck_t ix5.1, j_Walk_go_L3, if_neg (by decide), ck_t (show ix (0 + 1) 5 = true by decide), j_Walk_go_L3, if_neg (by decide), ck_t (show ix (0 + 1 + 1) 5 = true by decide), j_Walk_go_L3, if_neg (by decide), ck_t (show ix (0 + 1 + 1 + 1) 5 = true by decide), j_Walk_go_L3, if_neg (by decide), ck_t (show ix (0 + 1 + 1 + 1 + 1) 5 = true by decide), j_Walk_go_L3, if_pos (by decide)]
  rfl
def mFin (r10 : Nat) (r16 : Int32) (st17 : CwS) : Option (Int32 × CwS) :=
  if r16 = ((100 : Int32)) then
    if r16 = ((100 : Int32)) then
      some ((0 : Int32), sL st17 3 0 0 (gL st17 4 r10 0))
    else
      if r16 = ((99 : Int32)) then
        some ((-3 : Int32), sL st17 3 0 0 (gL st17 4 r10 0))
      else
        some (r16, sL st17 3 0 0 (gL st17 4 r10 0))
  else
    if r16 = ((100 : Int32)) then
      some ((0 : Int32), sL st17 3 0 0 ((0 : Int64)))
    else
      if r16 = ((99 : Int32)) then
        some ((-3 : Int32), sL st17 3 0 0 ((0 : Int64)))
      else
        some (r16, sL st17 3 0 0 ((0 : Int64)))
def mTail (a1 a2 : Int32) (a3 : Int64) (a5 : Int32) (st6 : CwS) : Option (Int32 × CwS) :=
  bS (bCl st6) fun st9 =>
  bR (j_Mo_frame a1 ((-1 : Int32)) a2 a5 st9) fun r10 st11 =>
  ck (decide (r10 < gR st11 101 0)) <|
  bV (j_MF_number r10 a3 st11) fun st14 =>
  bR (j_Mo_ran 11 r10 ((0 : Int64)) st14) fun r16 st17 => mFin r10 r16 st17
theorem mRun_eq (a1 a2 : Int32) (a3 : Int64) (a5 : Int32) (st0 : CwS) : j_Mo_run a1 a2 a3 a5 st0 = bR (j_Mo_isBehaviour a1 a2 st0) fun r1 st2 => if r1 = ((0 : Int32)) then some ((-1 : Int32), st2) else bR (j_Mo_isIn a5 ((0 : Int32)) ((600 : Int32)) st2) fun r5 st6 => if r5 = ((0 : Int32)) then some ((-1 : Int32), st6) else mTail a1 a2 a3 a5 st6 := rfl
theorem Rel0.cl {a b : CwS} (r : Rel0 a b) : rBook (aCl a) (bCl b) ∧ rLed (aCl a) (bCl b) ∧ rCnt (aCl a) (bCl b) 0 0 ∧ rDep (aCl a) (bCl b) 0 := by
  obtain ⟨r1, ⟨l1, l2, l3, l4, _⟩, r3, r4, r5, r6⟩ := r
  refine ⟨r1, ⟨l1, l2, l3, l4, 0, by omega, rfl, rfl⟩, ⟨rfl, rfl, rfl, rfl, by omega, rfl, rfl, rfl⟩, rfl, rfl, fun c hc => ⟨0, by omega, r5 c hc, fun z => by omega, fun ⟨j, z, _⟩ => by omega⟩⟩
/-- the called frame's loop is over: what both sides are left with -/
theorem run_go {a b : CwS} (r : Rel0 a b) {C B L : Nat} (C8 : C < 8) (B6 : B < 6) (hL : L ≤ 600) (arg : Int64) : ∃ k a' b', j_Walk_go (nI C) (nI B) arg (nI L) a = some (k, a') ∧ mTail (nI C) (nI B) arg (nI L) b = some (k, b') ∧ Rel0 a' b' ∧ RoomR b b' := by
  obtain ⟨kb, kl, kc, kd⟩ := r.cl
  have u0 : ∀ c, c < 8 → gI b 4 0 c = 0 := r.2.2.2.2.1
  have fr10 : gR (bCl b) 101 0 ≤ 10 := r.2.2.2.2.2
  obtain ⟨bG, eb, fg⟩ := q_frame (b := bCl b) (d := 0) rfl (Nat.zero_le _) (by omega) fr10 (nI C) (-1) (nI B) (nI L)
  have st := start kb kl kc kd fg (by omega) C8 B6 (-1) (show 0 + L ≤ 600 by omega)
  have b18 : gI (bBeg bG 0 (nI C) (-1) (nI B) (nI L)) 18 0 0 = nI 0 := rfl
  have a18 : gI (aOp (aCl a) 0 (6 * C + B) (nI C) (-1) (nI (0 + L))) 18 0 0 = nI 0 := rfl
  have st1 : Rel (aP (aOp (aCl a) 0 (6 * C + B) (nI C) (-1) (nI (0 + L))) 0 0 0 arg) (bUp (bH (bP (bBeg bG 0 (nI C) (-1) (nI B) (nI L)) 0 0 0 arg 0) 0) 0 C) 0 (gR (bCl b) 101 2) 0 0 (0 + L) C B 0 0 1 1 := st.push (by omega) (Or.inl ⟨Or.inl rfl, rfl, rfl⟩) fun q hq => by omega
  have ef : j_Book_find (nI C) (nI B) (aCl a) = some (6 * C + B, aCl a) := by
    unfold j_Book_find
    rw [nI_m6, ckn (by omega) (by omega), nI_clamp (by omega)]
  have ea : j_Walk_go (nI C) (nI B) arg (nI L) a = KG (nI C) (nI B) arg (nI L) 0 0 (aP (aOp (aCl a) 0 (6 * C + B) (nI C) (-1) (nI (0 + L))) 0 0 0 arg) := by
    show j_Walk_go_L3 (999995 + 6) (nI C) (nI B) arg (nI L) 0 a = _
    rw [q_L3, ef, bR_s, ck_t (decide_eq_true (by omega)), q_open (a := aCl a) (d := 0) rfl (by omega), bR_s, ck_t (by decide)]
    have e7 : gI (aCl a) 7 0 0 + nI L = nI (0 + L) := by
      show nI 0 + nI L = _
      rw [nI_add]
    rw [e7, q_putNumber a18 (by omega), bR_s]
    rfl
  have b0 : j_Mo_ran 11 0 0 (bP (bBeg bG 0 (nI C) (-1) (nI B) (nI L)) 0 0 0 arg 0) = bR (j_Mo_goes (j_Mo_ran 10) 0 (bUp (bH (bP (bBeg bG 0 (nI C) (-1) (nI B) (nI L)) 0 0 0 arg 0) 0) 0 C)) fun r7 st8 => mEpi 0 (gI (bP (bBeg bG 0 (nI C) (-1) (nI B) (nI L)) 0 0 0 arg 0) 7 0 0) r7 st8 := q_ranB0 (j_Mo_ran 10) (d := 0) (b := bP (bBeg bG 0 (nI C) (-1) (nI B) (nI L)) 0 0 0 arg 0) ((fg.1 13 0 0 (by omega)).trans rfl) rfl C8 (by
    show gI (sI (sI bG 14 0 0 (nI C)) 15 0 0 (-1)) 15 0 0 < 0
    rw [gI_self]; decide)
  have ey : mTail (nI C) (nI B) arg (nI L) b = bR (j_Mo_ran 11 0 0 (bP (bBeg bG 0 (nI C) (-1) (nI B) (nI L)) 0 0 0 arg 0)) fun r16 st17 => mFin 0 r16 st17 := by
    unfold mTail
    simp only [bS, eb, bR_s]
    rw [ck_t (decide_eq_true (show 0 < gR (bBeg bG 0 (nI C) (-1) (nI B) (nI L)) 101 0 from fg.2.2.2.1)), q_number b18 (by omega), bV_s]
  have b7 : gI (bP (bBeg bG 0 (nI C) (-1) (nI B) (nI L)) 0 0 0 arg 0) 7 0 0 = nI 0 := (fg.1 7 0 0 (by omega)).trans rfl
  obtain ⟨how, b', b1, a1, r', T', F', g1, g2, g3, g4, g5, g6, g7, g8⟩ := goes_lvl (KG_kp (nI C) (nI B) arg (nI L) 0) 9 0 rfl _ _ _ _ _ _ 0 0 0 0 0 1 st1 (by
    show gL (sL bG 4 0 0 0) 4 0 0 = 0
    rw [gL_sL]; simp) (by omega)
  rw [ea, ey, b0, g1, bR_s, b7]
  -- what stays
  have ans : gI a1 9 0 0 = 0 := (g2.1 9 0 0 (by unfold cOkI; omega)).trans rfl
  have res : gL a1 5 0 0 = 0 := (g2.2.1 5 0 0 (by unfold cOkL; omega)).trans rfl
  have k3 : ∀ k, k < 64 → gL a1 3 0 k = gL (aCl a) 0 0 k := fun k hk => (g2.2.1 3 0 k (by unfold cOkL; omega)).trans ((keep3 (a := aCl a) (d := 0) (B := 6 * C + B) (C := nI C) (cl := -1) (st := nI (0 + L))).1 k hk)
  have k4 : ∀ k, k < 8 → gL a1 4 0 k = gL (aCl a) 1 0 k := fun k hk => (g2.2.1 4 0 k (by unfold cOkL; omega)).trans ((keep3 (a := aCl a) (d := 0) (B := 6 * C + B) (C := nI C) (cl := -1) (st := nI (0 + L))).2.1 k hk)
  have k6 : gI a1 6 0 0 = gI (aCl a) 5 0 0 := (g2.1 6 0 0 (by unfold cOkI; omega)).trans (keep3 (a := aCl a) (d := 0) (B := 6 * C + B) (C := nI C) (cl := -1) (st := nI (0 + L))).2.2
  have h5 : ∀ k, k < 64 → gL b1 5 0 k = gL (bCl b) 0 0 k := by
    intro k hk
    rw [g3.2.1 5 0 k (by unfold mOkL; omega)]
    show gL (cL (bP (bBeg bG 0 (nI C) (-1) (nI B) (nI L)) 0 0 0 arg 0) 0 0 0 5 0 0 64) 5 0 k = _
    rw [gL_cL, if_pos (by omega), Nat.sub_zero, Nat.zero_add]
    exact fg.2.1 0 0 k (by omega)
  have h6 : ∀ k, k < 8 → gL b1 6 0 k = gL (bCl b) 1 0 k := by
    intro k hk
    rw [g3.2.1 6 0 k (by unfold mOkL; omega)]
    show gL (cL (cL (bP (bBeg bG 0 (nI C) (-1) (nI B) (nI L)) 0 0 0 arg 0) 0 0 0 5 0 0 64) 1 0 0 6 0 0 8) 6 0 k = _
    rw [gL_cL, if_pos (by omega), Nat.sub_zero, Nat.zero_add]
    exact fg.2.1 1 0 k (by omega)
  have un : ∀ c, c < 8 → gI b1 4 0 c = if c = C then 1 else 0 := by
    intro c hc
    rw [g3.1 4 0 c (by unfold mOkI; omega)]
    show gI (sI (sI (bH (bP (bBeg bG 0 (nI C) (-1) (nI B) (nI L)) 0 0 0 arg 0) 0) 13 0 0 (nI (0 + 1))) 4 0 C (gI bG 4 0 C + 1)) 4 0 c = _
    rw [gI_sI]
    by_cases z : c = C
    · rw [if_pos (by omega), if_pos z, fg.1 4 0 C (by omega)]
      show gI b 4 0 C + 1 = 1
      rw [u0 C C8]; rfl
    · rw [if_neg (by omega), if_neg z]
      show gI bG 4 0 c = 0
      rw [fg.1 4 0 c (by omega)]
      exact u0 c hc
  have un' : ∀ (s : CwS), (∀ c, gI s 4 0 c = if c = C then gI b1 4 0 C - 1 else gI b1 4 0 c) → ∀ c, c < 8 → gI s 4 0 c = 0 := by
    intro s e c hc
    rw [e]
    by_cases z : c = C
    · rw [if_pos z, un C C8, if_pos rfl]; rfl
    · rw [if_neg z, un c hc, if_neg z]
  have roomQ : T' ≤ 600 → gR b1 101 0 ≤ 10 → ∀ s : CwS, gR s 101 0 = gR b1 101 0 → gR s 101 2 = gR b1 101 2 → gR s 101 3 = gR b1 101 3 → RoomR b s := by
    intro hT hf s e0 e2 e3
    obtain ⟨q1, q2, q3, q4, q5, q6, q7, q8⟩ := fg
    have w0 : gR bG 101 0 ≤ gR b1 101 0 := g3.2.2.2.1
    have w4 : gR b1 101 2 + 0 + 8 * gR bG 101 0 ≤ gR bG 101 2 + T' + 8 * gR b1 101 0 := g4.1
    have w5 : gR b1 101 3 + 16 * 0 + 134 * gR bG 101 0 ≤ gR bG 101 3 + 16 * T' + 134 * gR b1 101 0 := g4.2
    have w6 : gR b 101 0 ≤ gR bG 101 0 := q6
    have w7 : gR b 101 2 + 8 * gR bG 101 0 = gR bG 101 2 + 8 * gR b 101 0 := q7
    have w8 : gR b 101 3 + 134 * gR bG 101 0 = gR bG 101 3 + 134 * gR b 101 0 := q8
    unfold RoomR
    rw [e0, e2, e3]
    omega
  rcases g8 with ⟨e1, w, n', hn', h', e2, e3, rl⟩ | ⟨k, n', h', fu, k0, hk, e1, e2, hf, e3, rl⟩ | ⟨e1, e2, e3, rl⟩
  · subst e1 e2
    have hT : T' ≤ 0 + L := rl.fr.2.2.2.2.2.2.2.2.2.1
    have hF10 : F' ≤ 10 := rl.cnt.2.2.2.2.1
    rw [mE_w (s := sL b1 4 0 0 w) (d := 0) rl.dep.2.1 rl.fr.2.1 C8, bR_s]
    have ew : j_Walk_endWell w a1 = some (sL (sI (sI a1 7 0 3 (gI a1 7 0 3 + 1)) 8 0 0 (nI 0)) 5 0 0 w) := by
      unfold j_Walk_endWell
      have y1 : ∀ z, gI (sI a1 7 0 3 z) 8 0 0 = nI (0 + 1) := fun _ => rl.dep.1
      have y2 : ∀ z, gI (sI (sI a1 7 0 3 z) 8 0 0 (nI 0)) 8 0 0 = nI 0 := fun _ => rfl
      rw [ck_t ix5.2.2.2.1, ck_t ix5.2.2.2.1, z32_3, y1, nI_pred, y2, if_pos (by decide)]
    rw [e3, ew, bV_s, KG_0 _ _ _ _ _ (by omega) rfl]
    have ry : mFin 0 100 (bEw (sL b1 4 0 0 w) 0 C) = some (0, sL (bEw (sL b1 4 0 0 w) 0 C) 3 0 0 w) := by
      unfold mFin
      rw [if_pos rfl, if_pos rfl]
      have y3 : gL (bEw (sL b1 4 0 0 w) 0 C) 4 0 0 = w := by
        show gL (sL b1 4 0 0 w) 4 0 0 = w
        rw [gL_sL]; simp
      rw [y3]
    rw [ry]
    obtain ⟨m1, m2, m3, m4, m5, m6, m7, m8⟩ := rl.cnt
    refine ⟨0, sL (sI (sI a1 7 0 3 (gI a1 7 0 3 + 1)) 8 0 0 (nI 0)) 5 0 0 w, sL (bEw (sL b1 4 0 0 w) 0 C) 3 0 0 w, ?_, rfl, ⟨rl.book, rl.led, ⟨m1.trans m2.symm, m3.trans m4.symm, m6, ?_, m8⟩, ?_, un' _ fun c => ?_, rl.hp.2.2.1⟩, roomQ (by omega) rl.hp.2.2.1 _ rfl rfl rfl⟩
    · have y4 : gI (sL (sI (sI a1 7 0 3 (gI a1 7 0 3 + 1)) 8 0 0 (nI 0)) 5 0 0 w) 9 0 0 = 0 := ans
      rw [y4]
    · show gI a1 7 0 3 + 1 = gI b1 11 0 0 + 1
      rw [m7]
    · rfl
    · show gI (sI (sI b1 13 0 0 (nI 0)) 4 0 C (gI b1 4 0 C - 1)) 4 0 c = _
      rw [gI_sI]
      by_cases z : c = C
      · rw [if_pos (by omega), if_pos z]
      · rw [if_neg (by omega), if_neg z]; rfl
  · have e2' := e2.symm
    subst e1 e2'
    have hT : T' ≤ 0 + L := rl.fr.2.2.2.2.2.2.2.2.2.1
    have hF10 : F' ≤ 10 := rl.cnt.2.2.2.2.1
    obtain ⟨_, _, _, _, _, k100, k99, _⟩ := kNeg k hk k0
    rw [mE_f k100 (d := 0) rl.dep.2.1 rl.fr.2.1 C8, bR_s]
    obtain ⟨f', rfl⟩ : ∃ f', fu = f' + 1 + 1 := ⟨fu - 2, by omega⟩
    have ef2 : j_Walk_fail_L38 (f' + 1) (nI k) (nI 0) (aUn a1 0) = some (sI (aUn a1 0) 9 0 0 (nI k)) := by
      rw [j_Walk_fail_L38, if_pos (by decide)]
    rw [e3, q_failU rl.dep.1 (by omega) rl.han.1, ef2, bV_s, KG_0 _ _ _ _ _ (by omega) rfl]
    have ry : mFin 0 (nI k) (bEf b1 0 0 C (nI 0)) = some (nI k, sL (bEf b1 0 0 C (nI 0)) 3 0 0 0) := by
      unfold mFin
      rw [if_neg k100, if_neg k100, if_neg k99]
    rw [ry]
    obtain ⟨m1, m2, m3, m4, m5, m6, m7, m8⟩ := rl.cnt
    refine ⟨nI k, _, _, rfl, rfl, ⟨rl.book, undo_led kl rl.led k3 k4 k6 h5 h6 rfl, ⟨m1.trans m2.symm, m3.trans m4.symm, m6, m7, ?_⟩, res, un' _ fun c => ?_, rl.hp.2.2.1⟩, roomQ (by omega) rl.hp.2.2.1 _ rfl rfl rfl⟩
    · show gI a1 7 0 4 + 1 = gI b1 12 0 0 + 1
      rw [m8]
    · show gI (sI (sI b1 13 0 0 (nI 0)) 4 0 C (gI b1 4 0 C - 1)) 4 0 c = _
      rw [gI_sI]
      by_cases z : c = C
      · rw [if_pos (by omega), if_pos z]
      · rw [if_neg (by omega), if_neg z]; rfl
  · have e2' := e2.symm
    subst e1 e2'
    obtain ⟨x1, x2, x3, x4, x5, ⟨m1, m2, m3, m4, m5, m6, m7⟩, x7, x8, ⟨y1, y2, y3, y4⟩, c1⟩ := rl
    have d2 : gI b1 13 0 0 = nI (0 + 1) := (g3.1 13 0 0 (by unfold mOkI; omega)).trans rfl
    rw [mE_f (by decide) (d := 0) d2 c1 C8, bR_s]
    have eo : cOut a1 = some (sI (sI (sI (cL (cL (sI a1 7 0 4 (gI a1 7 0 4 + (gI a1 8 0 0 - 0))) 3 0 0 0 0 0 64) 4 0 0 1 0 0 8) 5 0 0 (gI a1 6 0 0)) 8 0 0 (nI 0)) 9 0 0 (-3)) := by
      unfold cOut j_Walk_undoTo j_Ledger_restore
      have i0 : ix 0 10 = true := by decide
      rw [ck_t ix5.2.2.2.2, ck_t ix5.2.2.2.2, z32_4, ck_t i0, ck_t cpk64, ck_t i0, ck_t cpk8, ck_t i0, z32_0, z32_64, z32_8, bV_s]
      rfl
    rw [e3, eo, bV_s, KG_0 _ _ _ _ _ (by omega) rfl]
    have ry : mFin 0 99 (bEf b1 0 0 C (nI 0)) = some (-3, sL (bEf b1 0 0 C (nI 0)) 3 0 0 0) := by
      unfold mFin
      rw [if_neg (by decide), if_neg (by decide), if_pos rfl]
    rw [ry]
    refine ⟨-3, _, _, rfl, rfl, ⟨x1, ⟨funext fun k => ?_, funext fun k => ?_, x2, x3, 0, by omega, ?_, rfl⟩, ⟨m1.trans m2.symm, m3.trans m4.symm, m6, m7, ?_⟩, res, un' _ fun c => ?_, y3⟩, roomQ (by omega) y3 _ rfl rfl rfl⟩
    · show gL (cL a1 3 0 0 0 0 0 64) 0 0 k = gL (cL b1 5 0 0 0 0 0 64) 0 0 k
      rw [gL_cL, gL_cL]
      by_cases z : k < 64
      · rw [if_pos (by omega), if_pos (by omega), Nat.sub_zero, Nat.zero_add, k3 k z, h5 k z, kl.1]
      · rw [if_neg (by omega), if_neg (by omega), x4 k (by omega)]
    · show gL (cL (cL a1 3 0 0 0 0 0 64) 4 0 0 1 0 0 8) 1 0 k = gL (cL (cL b1 5 0 0 0 0 0 64) 6 0 0 1 0 0 8) 1 0 k
      rw [gL_cL (cL a1 3 0 0 0 0 0 64), gL_cL (cL b1 5 0 0 0 0 0 64)]
      by_cases z : k < 8
      · rw [if_pos (by omega), if_pos (by omega), Nat.sub_zero, Nat.zero_add]
        show gL a1 4 0 k = gL b1 6 0 k
        rw [k4 k z, h6 k z, kl.2.1]
      · rw [if_neg (by omega), if_neg (by omega)]
        exact x5 k (by omega)
    · show gI a1 6 0 0 = nI 0
      rw [k6]; rfl
    · show gI a1 7 0 4 + (gI a1 8 0 0 - 0) = gI b1 12 0 0 + 1
      rw [Int32.sub_zero, x7]; rfl
    · show gI (sI (sI b1 13 0 0 (nI 0)) 4 0 C (gI b1 4 0 C - 1)) 4 0 c = _
      rw [gI_sI]
      by_cases z : c = C
      · rw [if_pos (by omega), if_pos z]
      · rw [if_neg (by omega), if_neg z]; rfl
