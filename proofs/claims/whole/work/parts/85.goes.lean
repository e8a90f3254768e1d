-- PURE: the reference's loop over a frame's steps against the class's rounds
def Pot (T : Nat) (b : CwS) (T' : Nat) (b' : CwS) : Prop := gR b' 101 2 + T + 8 * gR b 101 0 ≤ gR b 101 2 + T' + 8 * gR b' 101 0 ∧ gR b' 101 3 + 16 * T + 134 * gR b 101 0 ≤ gR b 101 3 + 16 * T' + 134 * gR b' 101 0
theorem Pot.refl (T : Nat) (b : CwS) : Pot T b T b := ⟨by omega, by omega⟩
theorem Pot.trans {T1 T2 T3 : Nat} {a b c : CwS} (h : Pot T1 a T2 b) (g : Pot T2 b T3 c) : Pot T1 a T3 c := by
  unfold Pot at *
  omega
/-- the run is out of failures, seen from level i -/
def OutR (a b : CwS) (i T F S base c : Nat) : Prop := rBook a b ∧ gI a 4 0 = gI b 5 0 ∧ gL a 2 0 = gL b 2 0 ∧ (∀ k, 64 ≤ k → gL a 0 0 k = gL b 0 0 k) ∧ (∀ k, 8 ≤ k → gL a 1 0 k = gL b 1 0 k) ∧ (gI a 7 0 0 = nI T ∧ gI b 8 0 0 = nI T ∧ gI a 7 0 1 = nI F ∧ gI b 9 0 0 = nI F ∧ F ≤ 10 ∧ gI a 7 0 2 = gI b 10 0 0 ∧ gI a 7 0 3 = gI b 11 0 0) ∧ gI a 7 0 4 + gI a 8 0 0 = gI b 12 0 0 + nI (i + 1) ∧ T ≤ S ∧ rHp b i base ∧ gI b 14 i 0 = nI c
def GoesOK (K : Nat → CwS → Option (Int32 × CwS)) (i base r T F S c bb : Nat) (a b : CwS) (y : Option (Int32 × CwS)) : Prop := ∃ (how : Int32) (b' b1 a1 : CwS) (r' T' F' : Nat), y = some (how, b') ∧ SameC i a a1 ∧ SameM i base b b1 ∧ Pot T b T' b1 ∧ T ≤ T' ∧ F ≤ F' ∧ r' + 2 * T + F ≤ r + 2 * T' + F' ∧
  ((how = 100 ∧ ∃ (v : Int64) (n hn h : Nat), b' = sL b1 4 i 0 v ∧ K r a = bV (j_Walk_endWell v a1) (K (r' + 1)) ∧ Rel a1 b1 i base T' F' S c bb n hn h h) ∨
   (∃ k n h fu : Nat, 0 < k ∧ k < 21 ∧ how = nI k ∧ b' = b1 ∧ i + 1 < fu ∧ K r a = bV (j_Walk_fail_L38 fu (nI k) (nI (i + 1)) a1) (K (r' + 1)) ∧ Rel a1 b1 i base T' F' S c bb n 0 h h) ∨
   (how = 99 ∧ b' = b1 ∧ K r a = bV (cOut a1) (K (r' + 1)) ∧ OutR a1 b1 i T' F' S base c))
section
variable {K : Nat → CwS → Option (Int32 × CwS)} {i base r r2 T T2 F F2 S c bb n hn h : Nat} {a b a2 b2 : CwS} {y : Option (Int32 × CwS)}
theorem GoesOK.pre (g : GoesOK K i base r2 T2 F2 S c bb a2 b2 y) (e : K r a = K r2 a2) (s1 : SameC i a a2) (s2 : SameM i base b b2) (p : Pot T b T2 b2) (hT : T ≤ T2) (hF : F ≤ F2) (hr : r2 + 2 * T + F ≤ r + 2 * T2 + F2) : GoesOK K i base r T F S c bb a b y := by
  obtain ⟨how, b', b1, a1, r', T', F', g1, g2, g3, g4, g5, g6, g7, g8⟩ := g
  refine ⟨how, b', b1, a1, r', T', F', g1, s1.trans g2, s2.trans g3, p.trans g4, by omega, by omega, by omega, ?_⟩
  rw [e]
  exact g8
def Inv (b : CwS) (i c bb m : Nat) : Prop := gL b 4 i 0 = 0 ∧ gI b 2 0 (6 * c + bb) = nI m
theorem SameM.inv {i base c bb m : Nat} {b b' : CwS} (s : SameM i base b b') (h : Inv b i c bb m) : Inv b' i c bb m := ⟨(s.2.1 4 i 0 (by unfold mOkL; omega)).trans h.1, (s.1 2 0 (6 * c + bb) (by unfold mOkI; omega)).trans h.2⟩
/-- what is known of the later turns -/
def GoesIH (K : Nat → CwS → Option (Int32 × CwS)) (KK : CwS → Option (Int32 × CwS)) (i base S c bb m μ : Nat) : Prop := ∀ (a b : CwS) (r T F n hn h : Nat), (S - T) + (10 - F) < μ → Rel a b i base T F S c bb n hn h h → Inv b i c bb m → r ≤ 2 * T + F → GoesOK K i base r T F S c bb a b (KK b)
variable {KK : CwS → Option (Int32 × CwS)} {μ m : Nat}
/-- a failure with a handler at hand, or none -/
theorem FN (r0 : Rel a b i base T F S c bb n hn h h) (hg : Inv b i c bb m) (ih : GoesIH K KK i base S c bb m μ) (hμ : (S - T) + (10 - F) < μ) (hr : r + 1 ≤ 2 * T + F) {k fu : Nat} (k0 : 0 < k) (hk : k < 21) (hf : i + 1 < fu) (a0 : CwS) (b0 : CwS) (r0' T0 F0 : Nat) (e : K r0' a0 = bV (j_Walk_fail_L38 fu (nI k) (nI (i + 1)) a) (K (r + 1))) (s1 : SameC i a0 a) (s2 : SameM i base b0 b) (p : Pot T0 b0 T b) (hT : T0 ≤ T) (hF : F0 ≤ F) (hr2 : r + 1 + 2 * T0 + F0 ≤ r0' + 2 * T + F) {y : Option (Int32 × CwS)} (ey : y = if gI b 19 i 0 = 0 then some (nI k, b) else mPop KK i (nI k).toInt64 b) : GoesOK K i base r0' T0 F0 S c bb a0 b0 y := by
  cases hn with
  | zero =>
    rw [ey, r0.han.2.1, if_pos nI_0]
    exact ⟨nI k, b, b, a, r, T, F, rfl, s1, s2, p, hT, hF, by omega, Or.inr (Or.inl ⟨k, n, h, fu, k0, hk, rfl, rfl, hf, e, r0⟩)⟩
  | succ hn =>
    obtain ⟨f, rfl⟩ : ∃ f, fu = f + 1 := ⟨fu - 1, by omega⟩
    obtain ⟨a3, b3, n', h', p1, p2, p3, p4, p5, p6, p7, p8⟩ := pop r0 k f hk
    have hn4 : hn + 1 ≤ 4 := r0.han.2.2.1
    rw [ey, r0.han.2.1, if_neg (nI_ne0 (by omega) (by omega)), p2]
    rw [p1, bV_s] at e
    refine (ih a3 b3 (r + 1) T F n' hn h' hμ p3 (p5.inv hg) hr).pre e (s1.trans p4) (s2.trans p5) (p.trans ?_) hT hF (by omega)
    unfold Pot
    rw [p6, p7, p8]
    omega
theorem outR (r0 : Rel a b i base T F S c bb n hn h h) : OutR a b i T F S base c := by
  obtain ⟨r1, ⟨l1, l2, l3, l4, l5⟩, ⟨d1, d2, d3, d4, d5, d6, d7, d8⟩, r4, r5, r6, r7, r8, r9, r10⟩ := r0
  exact ⟨r1, l3, l4, fun k _ => by rw [l1], fun k _ => by rw [l2], ⟨d1, d2, d3, d4, d5, d6, d7⟩, by rw [d8, r4.1], r5.2.2.2.2.2.2.2.2.2.1, r10, r5.2.1⟩
/-- a failure of the step itself -/
theorem FH (r0 : Rel a b i base T F S c bb n hn h h) (hg : Inv b i c bb m) (ih : GoesIH K KK i base S c bb m μ) (hμ : (S - T) + (10 - (F + 1)) < μ ∨ 10 ≤ F) (hr : r ≤ 2 * T + F) {k : Nat} (k0 : 0 < k) (hk : k < 21) (a0 : CwS) (b0 : CwS) (r0' T0 F0 : Nat) (e : K r0' a0 = bV (j_Walk_fail (nI k) a) (K (r + 1))) (s1 : SameC i a0 a) (s2 : SameM i base b0 b) (p : Pot T0 b0 T b) (hT : T0 ≤ T) (hF : F0 ≤ F) (hr2 : r + 2 * T0 + F0 ≤ r0' + 2 * T + F) {y : Option (Int32 × CwS)} (ey : y = gAft KK i (nI k) b) : GoesOK K i base r0' T0 F0 S c bb a0 b0 y := by
  obtain ⟨d1, d2, d3, d4, d5, _⟩ := r0.cnt
  by_cases hF10 : F < 10
  · rw [gA_fail hk k0 d4 hF10] at ey
    rw [fail_F r0 hF10] at e
    have i9 : i < 10 := r0.hp.1
    exact FN (r0.fail hF10) hg ih (by omega) (by omega) k0 hk (by omega) a0 b0 r0' T0 F0 e (s1.wI _ (by unfold cOkI; omega)) (s2.wI _ (by unfold mOkI; omega)) p hT (by omega) (by omega) ey
  · rw [gA_out hk k0 (by rw [d4, show F = 10 by omega]; rfl)] at ey
    rw [fail_out r0 hF10] at e
    subst ey
    exact ⟨99, b, b, a, r, T, F, rfl, s1, s2, p, hT, hF, hr2, Or.inr (Or.inr ⟨rfl, rfl, e, outR r0⟩)⟩
/-- what the class does with a step's answer -/
def cAft (K : Nat → CwS → Option (Int32 × CwS)) (r : Nat) (x : Option (Int32 × CwS)) : Option (Int32 × CwS) := bV (bR x fun r13 st14 => if r13 = 0 then some st14 else j_Walk_fail r13 st14) (K (r + 1))
/-- a step that is neither a call nor an end -/
theorem GD {x : Option (Int32 × CwS)} (g : Good a b i base (T + 1) F S c bb x y) (hg : Inv b i c bb m) (ih : GoesIH K KK i base S c bb m μ) (hμ : (S - T) + (10 - F) ≤ μ) (hTS : T < S) (hr : r ≤ 2 * T + F) (a0 b0 : CwS) (e : K r a0 = cAft K r x) (s1 : SameC i a0 a) (s2 : SameM i base b0 b) (h0 : gR b 101 0 = gR b0 101 0) (h2 : gR b 101 2 = gR b0 101 2) (h3 : gR b 101 3 = gR b0 101 3) : GoesOK K i base r T F S c bb a0 b0 (bR y fun r3 st4 => gAft KK i r3 st4) := by
  obtain ⟨k, n, hn, h, a', b', e1, e2, hk, r1, t1, t2, u0, u2, u3⟩ := g
  subst e1 e2
  have p : Pot T b0 (T + 1) b' := by
    unfold Pot
    omega
  rw [bR_s]
  unfold cAft at e
  rw [bR_s] at e
  cases k with
  | zero =>
    rw [if_pos nI_0, bV_s] at e
    rw [nI_0, gA_0]
    exact (ih a' b' (r + 1) (T + 1) F n hn h (by omega) r1 (t2.inv hg) (by omega)).pre e (s1.trans t1) (s2.trans t2) p (by omega) (by omega) (by omega)
  | succ k =>
    rw [if_neg (nI_ne0 (by omega) (by omega))] at e
    exact FH r1 (t2.inv hg) ih (by omega) (by omega) (by omega) (by omega) a0 b0 r T F e (s1.trans t1) (s2.trans t2) p (by omega) (by omega) (by omega) rfl
/-- what a call comes to, where it is not refused -/
def CallOK (K : Nat → CwS → Option (Int32 × CwS)) (i base r T F S c bb n hn : Nat) (a b : CwS) (x y : Option (Int32 × CwS)) : Prop :=
  Good a b i base T F S c bb x y ∨ ∃ (a2 b2 : CwS) (r2 T2 F2 h2 : Nat), SameC i a a2 ∧ SameM i base b b2 ∧ Pot (T - 1) b T2 b2 ∧ T ≤ T2 ∧ F ≤ F2 ∧
    ((y = some (0, b2) ∧ cAft K r x = K r2 a2 ∧ Rel a2 b2 i base T2 F2 S c bb n hn h2 h2 ∧ r2 + 2 * T + F ≤ r + 2 + 2 * T2 + F2) ∨
     (∃ k fu : Nat, 0 < k ∧ k < 21 ∧ i + 1 < fu ∧ y = some (-nI k, b2) ∧ cAft K r x = bV (j_Walk_fail_L38 fu (nI k) (nI (i + 1)) a2) (K (r2 + 1)) ∧ Rel a2 b2 i base T2 F2 S c bb n hn h2 h2 ∧ r2 + 1 + 2 * T + F ≤ r + 2 + 2 * T2 + F2) ∨
     (y = some (99, b2) ∧ cAft K r x = bV (cOut a2) (K (r2 + 1)) ∧ OutR a2 b2 i T2 F2 S base c ∧ r2 + 1 + 2 * T + F ≤ r + 2 + 2 * T2 + F2))
theorem CD {x : Option (Int32 × CwS)} (g : CallOK K i base r (T + 1) F S c bb n hn a b x y) (hg : Inv b i c bb m) (ih : GoesIH K KK i base S c bb m μ) (hμ : (S - T) + (10 - F) ≤ μ) (hTS : T < S) (hr : r ≤ 2 * T + F) (a0 b0 : CwS) (e : K r a0 = cAft K r x) (s1 : SameC i a0 a) (s2 : SameM i base b0 b) (h0 : gR b 101 0 = gR b0 101 0) (h2 : gR b 101 2 = gR b0 101 2) (h3 : gR b 101 3 = gR b0 101 3) : GoesOK K i base r T F S c bb a0 b0 (bR y fun r3 st4 => gAft KK i r3 st4) := by
  rcases g with g | ⟨a2, b2, r2, T2, F2, h', t1, t2, p2, hT2, hF2, w⟩
  · exact GD g hg ih hμ hTS hr a0 b0 e s1 s2 h0 h2 h3
  have p : Pot T b0 T2 b2 := by
    rw [Nat.add_sub_cancel] at p2
    unfold Pot at *
    omega
  rcases w with ⟨w1, w2, w3, w4⟩ | ⟨k, fu, k0, hk, hf, w1, w2, w3, w4⟩ | ⟨w1, w2, w3, w4⟩
  · rw [w1, bR_s, gA_0]
    exact (ih a2 b2 r2 T2 F2 n hn h' (by omega) w3 (t2.inv hg) (by omega)).pre (e.trans w2) (s1.trans t1) (s2.trans t2) p (by omega) (by omega) (by omega)
  · rw [w1, bR_s, gA_neg hk k0]
    exact FN w3 (t2.inv hg) ih (by omega) (by omega) k0 hk hf a0 b0 r T F (e.trans w2) (s1.trans t1) (s2.trans t2) p (by omega) (by omega) (by omega) rfl
  · rw [w1, bR_s, gA_99]
    exact ⟨99, b2, b2, a2, r2, T2, F2, rfl, s1.trans t1, s2.trans t2, p, by omega, by omega, by omega, Or.inr (Or.inr ⟨rfl, rfl, e.trans w2, w3⟩)⟩
end
variable {K : Nat → CwS → Option (Int32 × CwS)} {i base r T F S c bb n hn h : Nat} {a b : CwS} (RAN : Nat → Int64 → CwS → Option (Int32 × CwS))
theorem cB_27 (x : Int32) (st : CwS) : cBr i (nI 27) x st = j_Walk_giveBack i st := by
  show cBr i 27 x st = _
  unfold cBr
  simp (decide := true) only [if_true, if_false, bV_id]
theorem mB_27 (x x6 : Int32) (st : CwS) : mBr RAN i (nI 27) x x6 st = j_Mo_done_L202 RAN i 27 x x6 st := by
  show mBr RAN i 27 x x6 st = _
  unfold mBr j_Mo_done_L175
  simp (decide := true) only [if_true, if_false, bV_id]
theorem cB_29 (x : Int32) (st : CwS) : cBr i (nI 29) x st = j_Walk_callOther i x st := by
  show cBr i 29 x st = _
  unfold cBr
  simp (decide := true) only [if_true, if_false, bV_id]
theorem mB_29 (x x6 : Int32) (st : CwS) : mBr RAN i (nI 29) x x6 st = j_Mo_done_L202 RAN i 29 x x6 st := by
  show mBr RAN i 29 x x6 st = _
  unfold mBr j_Mo_done_L175
  simp (decide := true) only [if_true, if_false, bV_id]
/-- code 27: a refusal, or the end of the call -/
theorem pf_27 (r : Rel a b i base T F S c bb n hn h h) (hg : gL b 4 i 0 = 0) (x : Int32) : Good a b i base T F S c bb (j_Walk_perform i (nI 27) x a) (mBody RAN i (nI 27) x b) ∨ ∃ (v : Int64) (a1 b1 : CwS) (h1 : Nat), (j_Walk_perform i (nI 27) x a = bV (j_Walk_endWell v a1) fun s => some (0, s)) ∧ mBody RAN i (nI 27) x b = some (100, sL b1 4 i 0 v) ∧ Rel a1 b1 i base T F S c bb n hn h1 h1 ∧ SameC i a a1 ∧ SameM i base b b1 ∧ gR b1 101 0 = gR b 101 0 ∧ gR b1 101 2 = gR b 101 2 ∧ gR b1 101 3 = gR b 101 3 := by
  rcases pf_gen RAN r (k := 27) (t := 1) (m := 0) (by omega) rfl rfl (by omega) (by omega) (fun st => rfl) (by decide) x with ⟨⟨h1, h2⟩, e1, e2⟩ | ⟨e1, e2⟩
  · rw [e1, e2, cB_27, mB_27]
    have r2 := r.take (t := 1)
    have hH : gI (aT a i h 1) 19 i 0 = nI h := aT_19
    have q12 : h ≤ 12 := r.hi.2.2.2
    obtain ⟨h', rfl⟩ : ∃ h', h = h' + 1 := ⟨h - 1, by omega⟩
    rw [Nat.add_sub_cancel] at r2 ⊢
    obtain ⟨m, hm, m1, m2, _⟩ := r2.cntB
    have t0 : j_Pile_tookNumber i (0 : Int32) (aT a i (h' + 1) 1) = _ := tkB 0 h' hH rfl q12
    have t1 : j_Pile_took i (0 : Int32) (aT a i (h' + 1) 1) = _ := tkN 0 h' hH rfl q12
    have hg2 : sL (bT b i (h' + 1) 1) 4 i 0 0 = bT b i (h' + 1) 1 := by
      have e : gL (bT b i (h' + 1) 1) 4 i 0 = 0 := hg
      rw [← e, sL_self]
    rw [d_went RAN (by decide) (by decide) (by decide) (by decide) (by decide) (by decide) (by decide), w_27 RAN r2 m2]
    unfold j_Walk_giveBack
    simp only [t0, t1, mNb (show h' < 13 by omega), bR_s, r2.kd h' (by omega), hg2, ckn (show h' < 13 by omega) (show h' < 2 ^ 31 by omega), nI_clamp (show h' < 2 ^ 31 by omega)]
    by_cases k0 : gI (aT a i (h' + 1) 1) 17 i h' = 0
    · right
      have e4 : gI (sL (bT b i (h' + 1) 1) 4 i 0 (gL (bT b i (h' + 1) 1) 7 i h')) 21 i h' = 0 := (r2.kd h' (by omega)).trans k0
      rw [e4, r2.nm h' (by omega) k0]
      simp only [k0, if_true, i10, if_false]
      exact ⟨_, _, _, h', rfl, rfl, r2.low, aT_same, bT_same, rfl, rfl, rfl⟩
    · left
      simp only [k0, if_false, if_true]
      exact (gd_fail 4 (by omega) r2).of aT_same bT_same rfl rfl rfl
  · rw [e1, e2]
    exact Or.inl (gd_fail 11 (by omega) r)
theorem bV_bV {β : Type} (x : Option CwS) (f : CwS → Option CwS) (g : CwS → Option β) : bV (bV x f) g = bV x fun s => bV (f s) g := by
  cases x <;> rfl
/-- the loop -/
theorem goes_main (hK : KP K) (hC : ∀ (a b : CwS) (r T F n hn h : Nat) (x : Int32), Rel a b i base T F S c bb n hn h h → gL b 4 i 0 = 0 → 0 < T → r + 2 ≤ 2 * T + F → CallOK K i base r T F S c bb n hn a b (j_Walk_perform i (nI 29) x a) (mBody RAN i (nI 29) x b)) {m : Nat} (hm : m ≤ 24) : ∀ (f : Nat) (a b : CwS) (r T F n hn h : Nat), (S - T) + (10 - F) < f → Rel a b i base T F S c bb n hn h h → Inv b i c bb m → r ≤ 2 * T + F → GoesOK K i base r T F S c bb a b (j_Mo_goes_L18 RAN f i (nI m) b)
  | 0, a, b, r, T, F, n, hn, h, hf, _, _, _ => by omega
  | f + 1, a, b, r, T, F, n, hn, h, hf, r0, hg, hr => by
    have f0 := r0.fr
    have f3 : c < 8 := f0.2.2.1
    have f6 : bb < 6 := f0.2.2.2.2.2.1
    have f10 : T ≤ S := f0.2.2.2.2.2.2.2.2.2.1
    have f11 : S ≤ 600 := f0.2.2.2.2.2.2.2.2.2.2
    have F10 : F ≤ 10 := r0.cnt.2.2.2.2.1
    have i9 : i < 10 := r0.hp.1
    obtain ⟨n1, n2, n3⟩ := r0.nx
    have eK := hK r a i (by omega) r0.dep.1 i9
    obtain ⟨m', hm', em, c2, c3⟩ := r0.cntB
    have emm : m' = m := (nI_eq (by omega) (by omega)).mp (c2.symm.trans hg.2)
    rw [emm] at em
    rw [goes_eq, n2]
    by_cases z : m ≤ n
    · rw [if_pos (nI_le z (by omega))]
      rw [adv_end r0 hm em z] at eK
      refine ⟨100, b, b, a, r, T, F, rfl, SameC.refl _ _, SameM.refl _ _ _, Pot.refl _ _, Nat.le_refl _, Nat.le_refl _, by omega, Or.inl ⟨rfl, 0, n, hn, h, ?_, eK, r0⟩⟩
      rw [← hg.1, sL_self]
    · rw [if_neg (nI_ge (by omega) (by omega))]
      have ihm : GoesIH K (j_Mo_goes_L18 RAN f i (nI m)) i base S c bb m f := fun a' b' r' T' F' n' hn' h' hl r'' g' hr' => goes_main hK hC hm f a' b' r' T' F' n' hn' h' (by omega) r'' g' hr'
      by_cases hS : T < S
      · rw [adv_step r0 hm em z hS] at eK
        rw [done_step RAN r0 (by omega) hS, ← (c3 n (by omega)).1, ← (c3 n (by omega)).2]
        have r1 := r0.tick hS (by omega)
        have s1 : SameC i a (sI (sI a 7 0 0 (nI (T + 1))) 15 i 0 (nI (n + 1))) := ((SameC.refl _ _).wI _ (by unfold cOkI; omega)).wI _ (by unfold cOkI; omega)
        have s2 : SameM i base b (sI (sI (sI b 17 i 0 (nI (S - (T + 1)))) 8 0 0 (nI (T + 1))) 20 i 0 (nI (n + 1))) := (((SameM.refl _ _ _).wI _ (by unfold mOkI; omega)).wI _ (by unfold mOkI; omega)).wI _ (by unfold mOkI; omega)
        have hg1 := s2.inv hg
        generalize gI a 0 (6 * c + bb) n = cd at *
        generalize gI a 1 (6 * c + bb) n = x at *
        generalize sI (sI a 7 0 0 (nI (T + 1))) 15 i 0 (nI (n + 1)) = a1 at *
        have h0 : gR (sI (sI (sI b 17 i 0 (nI (S - (T + 1)))) 8 0 0 (nI (T + 1))) 20 i 0 (nI (n + 1))) 101 0 = gR b 101 0 := rfl
        have h2 : gR (sI (sI (sI b 17 i 0 (nI (S - (T + 1)))) 8 0 0 (nI (T + 1))) 20 i 0 (nI (n + 1))) 101 2 = gR b 101 2 := rfl
        have h3 : gR (sI (sI (sI b 17 i 0 (nI (S - (T + 1)))) 8 0 0 (nI (T + 1))) 20 i 0 (nI (n + 1))) 101 3 = gR b 101 3 := rfl
        generalize sI (sI (sI b 17 i 0 (nI (S - (T + 1)))) 8 0 0 (nI (T + 1))) 20 i 0 (nI (n + 1)) = b1 at *
        by_cases u0 : cd < 0
        · exact GD (pf_un RAN r1 x cd (Or.inl u0)) hg1 ihm (by omega) hS hr a b eK s1 s2 h0 h2 h3
        · by_cases u1 : (32 : Int32) ≤ cd
          · exact GD (pf_un RAN r1 x cd (Or.inr u1)) hg1 ihm (by omega) hS hr a b eK s1 s2 h0 h2 h3
          · obtain ⟨k, hk, rfl⟩ := inNat cd 32 (by omega) u0 u1
            by_cases k29 : k = 29
            · subst k29
              exact CD (hC a1 b1 r (T + 1) F (n + 1) hn h x r1 hg1.1 (by omega) (by omega)) hg1 ihm (by omega) hS hr a b eK s1 s2 h0 h2 h3
            · by_cases k27 : k = 27
              · subst k27
                rcases pf_27 RAN r1 hg1.1 x with g | ⟨v, a2, b2, h', w1, w2, w3, w4, w5, w6, w7, w8⟩
                · exact GD g hg1 ihm (by omega) hS hr a b eK s1 s2 h0 h2 h3
                · rw [w2, bR_s, gA_100]
                  refine ⟨100, sL b2 4 i 0 v, b2, a2, r, T + 1, F, rfl, s1.trans w4, s2.trans w5, ?_, by omega, by omega, by omega, Or.inl ⟨rfl, v, n + 1, hn, h', rfl, ?_, w3⟩⟩
                  · unfold Pot
                    omega
                  · rw [eK, w1]
                    cases j_Walk_endWell v a2 <;> rfl
              · exact GD (pf_all RAN r1 x hk k27 k29) hg1 ihm (by omega) hS hr a b eK s1 s2 h0 h2 h3
      · rw [adv_lim r0 hm em z hS] at eK
        rw [done_lim RAN r0 hS, bR_s]
        exact FH r0 hg ihm (by omega) hr (k := 7) (by omega) (by omega) a b r T F eK (SameC.refl _ _) (SameM.refl _ _ _) (Pot.refl _ _) (Nat.le_refl _) (Nat.le_refl _) (by omega) rfl
