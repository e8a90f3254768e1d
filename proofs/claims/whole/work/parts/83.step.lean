-- PURE: a step: tick, take, and the code's own part
/-- the class's step behind the take -/
def cBr (i : Nat) (cd x : Int32) (st : CwS) : Option (Int32 × CwS) :=
          if cd = (0 : Int32) then
            bR (j_Pile_putNumber i x.toInt64 st) fun r14 st15 =>
            some (r14, st15)
          else
          if cd = (1 : Int32) then
            bR (j_Walk_putLeaf i x st) fun r17 st18 =>
            some (r17, st18)
          else
          if cd = (2 : Int32) then
            bR (j_Walk_changeLeaf i x st) fun r20 st21 =>
            some (r20, st21)
          else
          if cd = (3 : Int32) then
            bR (j_Walk_putTwice i st) fun r23 st24 =>
            some (r23, st24)
          else
          if cd = (4 : Int32) then
            some ((0 : Int32), st)
          else
          if cd = (5 : Int32) then
            bR (j_Walk_putSwapped i st) fun r26 st27 =>
            some (r26, st27)
          else
          if cd = (13 : Int32) then
            bR (j_Frame_jump i x st) fun r29 st30 =>
            some (r29, st30)
          else
          if cd = (14 : Int32) then
            bR (j_Walk_jumpIfZero i x st) fun r32 st33 =>
            some (r32, st33)
          else
          if cd = (15 : Int32) then
            bR (j_Rows_putNew i ((1 : Int32)) st) fun r35 st36 =>
            some (r35, st36)
          else
          if cd = (16 : Int32) then
            bR (j_Rows_putNew i ((2 : Int32)) st) fun r38 st39 =>
            some (r38, st39)
          else
          if cd = (17 : Int32) then
            bR (j_Rows_putElement i ((1 : Int32)) st) fun r41 st42 =>
            some (r41, st42)
          else
          if cd = (18 : Int32) then
            bR (j_Rows_putElement i ((2 : Int32)) st) fun r44 st45 =>
            some (r44, st45)
          else
          if cd = (19 : Int32) then
            bR (j_Rows_changeElement i ((1 : Int32)) st) fun r47 st48 =>
            some (r47, st48)
          else
          if cd = (20 : Int32) then
            bR (j_Rows_changeElement i ((2 : Int32)) st) fun r50 st51 =>
            some (r50, st51)
          else
          if cd = (21 : Int32) then
            bR (j_Rows_putLength i st) fun r53 st54 =>
            some (r53, st54)
          else
          if cd = (22 : Int32) then
            bR (j_Pile_put i ((3 : Int32)) ((0 : Int64)) st) fun r56 st57 =>
            some (r56, st57)
          else
          if cd = (23 : Int32) then
            bR (j_Rows_copyElements i st) fun r59 st60 =>
            some (r59, st60)
          else
          if cd = (24 : Int32) then
            bR (j_Frame_addHandler i x st) fun r62 st63 =>
            some (r62, st63)
          else
          if cd = (25 : Int32) then
            bR (j_Frame_dropHandler i st) fun r65 st66 =>
            some (r65, st66)
          else
          if cd = (26 : Int32) then
            if x < ((0 : Int32)) then
              some ((12 : Int32), st)
            else
              if ((7 : Int32)) < x then
                some ((12 : Int32), st)
              else
                some (((13 : Int32)) + x, st)
          else
          if cd = (27 : Int32) then
            bR (j_Walk_giveBack i st) fun r70 st71 =>
            some (r70, st71)
          else
          if cd = (28 : Int32) then
            bR (j_Walk_tellEvent i st) fun r73 st74 =>
            some (r73, st74)
          else
          if cd = (29 : Int32) then
            bR (j_Walk_callOther i x st) fun r76 st77 =>
            some (r76, st77)
          else
          if cd = (30 : Int32) then
            ck (ix (gI st 13 i 0) 8) <|
            bR (j_Pile_putNumber i (gL st 1 0 ((gI st 13 i 0).toNatClampNeg)) st) fun r80 st81 =>
            some (r80, st81)
          else
          if cd = (31 : Int32) then
            bR (j_Pile_putNumber i ((gI st 14 i 0).toInt64) st) fun r83 st84 =>
            some (r83, st84)
          else
            bR (j_Walk_calculate i cd st) fun r86 st87 =>
            some (r86, st87)
/-- the reference's -/
def mBr (RAN : Nat → Int64 → CwS → Option (Int32 × CwS)) (i : Nat) (cd x x6 : Int32) (st : CwS) : Option (Int32 × CwS) :=
  if cd < (6 : Int32) then j_Mo_done_L175 RAN i cd x x6 st
  else
    if (12 : Int32) < cd then j_Mo_done_L175 RAN i cd x x6 st
    else bR (j_Mo_reckoned i cd x6 st) fun r67 st68 => some (r67, st68)
def mBody (RAN : Nat → Int64 → CwS → Option (Int32 × CwS)) (i : Nat) (cd x : Int32) (st : CwS) : Option (Int32 × CwS) :=
  bR (j_Mo_needs cd st) fun r4 st5 =>
    if (0 : Int32) ≤ r4 then
      if gI st5 18 i 0 < r4 / (10 : Int32) then some ((11 : Int32), st5)
      else
        if gI st5 18 i 0 - r4 / (10 : Int32) + (r4 - r4 / (10 : Int32) * (10 : Int32)) ≤ (12 : Int32) then
          mBr RAN i cd x (gI (sI st5 18 i 0 (gI st5 18 i 0 - r4 / (10 : Int32))) 18 i 0) (sI st5 18 i 0 (gI st5 18 i 0 - r4 / (10 : Int32)))
        else some ((11 : Int32), st5)
    else some ((12 : Int32), st5)
theorem perf_eq (i : Nat) (cd x : Int32) (st : CwS) : j_Walk_perform i cd x st = if cd < (0 : Int32) then some ((12 : Int32), st) else if (32 : Int32) ≤ cd then some ((12 : Int32), st) else if cd < (32 : Int32) then ck (ix cd 32) (ck (ix cd 32) (bR (j_Pile_allows i (tkT cd.toNatClampNeg) (tkM cd.toNatClampNeg) st) fun r6 st7 => if r6 = (0 : Int32) then some ((11 : Int32), st7) else ck (ix cd 32) (bV (j_Pile_take i (tkT cd.toNatClampNeg) st7) fun st12 => cBr i cd x st12))) else some ((12 : Int32), st) := rfl
variable {a b : CwS} {i base T F S c bb n hn h H : Nat} (RAN : Nat → Int64 → CwS → Option (Int32 × CwS))
theorem Rel.tick (r : Rel a b i base T F S c bb n hn h H) (hT : T < S) (hn24 : n < 24) : Rel (sI (sI a 7 0 0 (nI (T + 1))) 15 i 0 (nI (n + 1))) (sI (sI (sI b 17 i 0 (nI (S - (T + 1)))) 8 0 0 (nI (T + 1))) 20 i 0 (nI (n + 1))) i base (T + 1) F S c bb (n + 1) hn h H := by
  obtain ⟨r1, r2, ⟨d1, d2, d3, d4, d5, d6, d7, d8⟩, r4, ⟨f1, f2, f3, f4, f5, f6, f7, f8, f9, f10, f11⟩, r6, r7, r8, r9, r10⟩ := r
  refine ⟨r1, r2, ⟨?_, ?_, ?_, d4, d5, ?_, ?_, ?_⟩, r4, ⟨f1, f2, f3, f4, f5, f6, f7, f8, ?_, by omega, f11⟩, ⟨?_, ?_, by omega⟩, r7, r8, r9, r10⟩
  all_goals first | (rw [gI_sI]; simp; done) | skip
  · show gI (sI a 7 0 0 (nI (T + 1))) 7 0 0 = _
    rw [gI_sI]; simp
  · show gI (sI (sI b 17 i 0 (nI (S - (T + 1)))) 8 0 0 (nI (T + 1))) 8 0 0 = _
    rw [gI_sI]; simp
  · exact d3
  · exact d6
  · exact d7
  · exact d8
  · show gI (sI b 17 i 0 (nI (S - (T + 1)))) 17 i 0 = _
    rw [gI_sI]; simp
def aT (a : CwS) (i h t : Nat) : CwS := sI (sI a 19 i 0 (nI h)) 18 i 0 (nI (h - t))
def bT (b : CwS) (i h t : Nat) : CwS := sI b 18 i 0 (nI (h - t))
theorem Rel.take (r : Rel a b i base T F S c bb n hn h h) {t : Nat} : Rel (aT a i h t) (bT b i h t) i base T F S c bb n hn (h - t) h := by
  obtain ⟨r1, r2, r3, r4, r5, r6, r7, r8, ⟨q1, q2, q3, q4⟩, r10⟩ := r
  exact ⟨r1, r2, r3, r4, r5, r6, r7, r8, ⟨gI_18, gI_18, Nat.sub_le _ _, q4⟩, r10⟩
theorem aT_19 {t : Nat} : gI (aT a i h t) 19 i 0 = nI h := by
  show gI (sI a 19 i 0 (nI h)) 19 i 0 = _
  rw [gI_sI]; simp
theorem aT_same {t : Nat} : SameC i a (aT a i h t) := ((SameC.refl _ _).wI _ (by unfold cOkI; omega)).wI _ (by unfold cOkI; omega)
theorem bT_same {t : Nat} : SameM i base b (bT b i h t) := (SameM.refl _ _ _).wI _ (by unfold mOkI; omega)
theorem Good.of {a' b' : CwS} {x y : Option (Int32 × CwS)} (g : Good a' b' i base T F S c bb x y) (s1 : SameC i a a') (s2 : SameM i base b b') (h0 : gR b' 101 0 = gR b 101 0) (h2 : gR b' 101 2 = gR b 101 2) (h3 : gR b' 101 3 = gR b 101 3) : Good a b i base T F S c bb x y := by
  obtain ⟨k, n, hn, h, a2, b2, g1, g2, g3, g4, g5, g6, g7, g8, g9⟩ := g
  exact ⟨k, n, hn, h, a2, b2, g1, g2, g3, g4, s1.trans g5, s2.trans g6, g7.trans h0, by omega, by omega⟩
theorem nI_sub {x y : Nat} (h : y ≤ x) : nI x - nI y = nI (x - y) := by
  have e : nI x = nI (x - y) + nI y := by rw [nI_add, Nat.sub_add_cancel h]
  rw [e, Int32.add_sub_cancel]
/-- the test of the pile, and the take, on both sides -/
theorem pf_gen (r : Rel a b i base T F S c bb n hn h h) {k t m : Nat} (hk : k < 32) (eT : tkT k = nI t) (eM : tkM k = nI m) (ht : t ≤ 5) (hm : m ≤ 2) (eN : ∀ st, j_Mo_needs (nI k) st = some (nI (10 * t + m), st)) (eD : nI (10 * t + m) / (10 : Int32) = nI t) (x : Int32) : ((t ≤ h ∧ h - t + m ≤ 12) ∧ j_Walk_perform i (nI k) x a = cBr i (nI k) x (aT a i h t) ∧ mBody RAN i (nI k) x b = mBr RAN i (nI k) x (nI (h - t)) (bT b i h t)) ∨ (j_Walk_perform i (nI k) x a = some (11, a) ∧ mBody RAN i (nI k) x b = some (11, b)) := by
  have q := r.hi
  have e10 : nI t * (10 : Int32) = nI (10 * t) := by
    have : nI t * nI 10 = nI (t * 10) := (Int32.ofNat_mul t 10).symm
    rw [Nat.mul_comm] at this
    exact this
  rw [perf_eq, if_neg (nI_pos (by omega)), if_neg (show ¬ (32 : Int32) ≤ nI k from nI_ge (b := 32) (by omega) (by omega)), if_pos (show nI k < (32 : Int32) from nI_lt (b := 32) (by omega) (by omega)), ckn hk (by omega), ckn hk (by omega), nI_clamp (by omega), eT, eM]
  unfold mBody j_Pile_allows
  rw [eN, bR_s, eD, e10, if_pos (nI_pos' (by omega)), q.1, q.2.1, nI_sub (show 10 * t ≤ 10 * t + m by omega), show 10 * t + m - 10 * t = m by omega]
  by_cases h1 : h < t
  · rw [if_pos (nI_lt h1 (by omega)), if_pos (nI_lt h1 (by omega)), bR_s, if_pos rfl]
    exact Or.inr ⟨rfl, rfl⟩
  · rw [if_neg (nI_nlt (by omega) (by omega)), if_neg (nI_nlt (by omega) (by omega)), nI_sub (show t ≤ h by omega), nI_add]
    by_cases h2 : 12 < h - t + m
    · rw [if_pos (show (12 : Int32) < nI (h - t + m) from nI_lt (a := 12) h2 (by omega)), if_neg (show ¬ nI (h - t + m) ≤ (12 : Int32) from nI_ge (a := 12) h2 (by omega)), bR_s, if_pos rfl]
      exact Or.inr ⟨rfl, rfl⟩
    · refine Or.inl ⟨⟨by omega, by omega⟩, ?_, ?_⟩
      · rw [if_neg (show ¬ (12 : Int32) < nI (h - t + m) from nI_nlt (b := h - t + m) (a := 12) (by omega) (by omega)), bR_s, if_neg (by decide), ckn hk (by omega), p_take, bV_s]
        unfold pTake aT
        rw [q.1, nI_sub (show t ≤ h by omega)]
        by_cases z : h - t = 0
        · rw [z, if_neg (by decide)]
          rfl
        · rw [if_pos (show (0 : Int32) < nI (h - t) from nI_lt (a := 0) (by omega) (by omega))]
      · rw [if_pos (show nI (h - t + m) ≤ (12 : Int32) from nI_le (b := 12) (by omega) (by omega)), gI_18]
        rfl
theorem cB_0 (x : Int32) (st : CwS) : cBr i (nI 0) x st = j_Pile_putNumber i x.toInt64 st := by
  show cBr i 0 x st = _
  unfold cBr
  simp (decide := true) only [if_true, if_false, bV_id]
theorem mB_0 (x x6 : Int32) (st : CwS) : mBr RAN i (nI 0) x x6 st = j_Mo_done_L202 RAN i 0 x x6 st := by
  show mBr RAN i 0 x x6 st = _
  unfold mBr j_Mo_done_L175
  simp (decide := true) only [if_true, if_false, bV_id]
theorem pf_0 (r : Rel a b i base T F S c bb n hn h h) (x : Int32) : Good a b i base T F S c bb (j_Walk_perform i (nI 0) x a) (mBody RAN i (nI 0) x b) := by
  rcases pf_gen RAN r (k := 0) (t := 0) (m := 1) (by omega) rfl rfl (by omega) (by omega) (fun st => rfl) (by decide) x with ⟨⟨h1, h2⟩, e1, e2⟩ | ⟨e1, e2⟩
  · rw [e1, e2, cB_0, mB_0]
    have r2 := r.take (t := 0)
    have hH : gI (aT a i h 0) 19 i 0 = nI h := aT_19
    have q12 : h ≤ 12 := r.hi.2.2.2
    rw [Nat.sub_zero] at r2 ⊢
    exact (g_0 RAN r2 (by omega) x _).of aT_same bT_same rfl rfl rfl
  · rw [e1, e2]
    exact gd_fail 11 (by omega) r
theorem cB_1 (x : Int32) (st : CwS) : cBr i (nI 1) x st = j_Walk_putLeaf i x st := by
  show cBr i 1 x st = _
  unfold cBr
  simp (decide := true) only [if_true, if_false, bV_id]
theorem mB_1 (x x6 : Int32) (st : CwS) : mBr RAN i (nI 1) x x6 st = j_Mo_done_L202 RAN i 1 x x6 st := by
  show mBr RAN i 1 x x6 st = _
  unfold mBr j_Mo_done_L175
  simp (decide := true) only [if_true, if_false, bV_id]
theorem pf_1 (r : Rel a b i base T F S c bb n hn h h) (x : Int32) : Good a b i base T F S c bb (j_Walk_perform i (nI 1) x a) (mBody RAN i (nI 1) x b) := by
  rcases pf_gen RAN r (k := 1) (t := 0) (m := 1) (by omega) rfl rfl (by omega) (by omega) (fun st => rfl) (by decide) x with ⟨⟨h1, h2⟩, e1, e2⟩ | ⟨e1, e2⟩
  · rw [e1, e2, cB_1, mB_1]
    have r2 := r.take (t := 0)
    have hH : gI (aT a i h 0) 19 i 0 = nI h := aT_19
    have q12 : h ≤ 12 := r.hi.2.2.2
    rw [Nat.sub_zero] at r2 ⊢
    exact (g_putLeaf r2 (by omega) x RAN _).of aT_same bT_same rfl rfl rfl
  · rw [e1, e2]
    exact gd_fail 11 (by omega) r
theorem cB_2 (x : Int32) (st : CwS) : cBr i (nI 2) x st = j_Walk_changeLeaf i x st := by
  show cBr i 2 x st = _
  unfold cBr
  simp (decide := true) only [if_true, if_false, bV_id]
theorem mB_2 (x x6 : Int32) (st : CwS) : mBr RAN i (nI 2) x x6 st = j_Mo_done_L202 RAN i 2 x x6 st := by
  show mBr RAN i 2 x x6 st = _
  unfold mBr j_Mo_done_L175
  simp (decide := true) only [if_true, if_false, bV_id]
theorem pf_2 (r : Rel a b i base T F S c bb n hn h h) (x : Int32) : Good a b i base T F S c bb (j_Walk_perform i (nI 2) x a) (mBody RAN i (nI 2) x b) := by
  rcases pf_gen RAN r (k := 2) (t := 1) (m := 0) (by omega) rfl rfl (by omega) (by omega) (fun st => rfl) (by decide) x with ⟨⟨h1, h2⟩, e1, e2⟩ | ⟨e1, e2⟩
  · rw [e1, e2, cB_2, mB_2]
    have r2 := r.take (t := 1)
    have hH : gI (aT a i h 1) 19 i 0 = nI h := aT_19
    have q12 : h ≤ 12 := r.hi.2.2.2
    obtain ⟨h', rfl⟩ : ∃ h', h = h' + 1 := ⟨h - 1, by omega⟩
    rw [Nat.add_sub_cancel] at r2 ⊢
    exact (g_changeLeaf r2 hH x RAN).of aT_same bT_same rfl rfl rfl
  · rw [e1, e2]
    exact gd_fail 11 (by omega) r
theorem cB_3 (x : Int32) (st : CwS) : cBr i (nI 3) x st = j_Walk_putTwice i st := by
  show cBr i 3 x st = _
  unfold cBr
  simp (decide := true) only [if_true, if_false, bV_id]
theorem mB_3 (x x6 : Int32) (st : CwS) : mBr RAN i (nI 3) x x6 st = j_Mo_done_L202 RAN i 3 x x6 st := by
  show mBr RAN i 3 x x6 st = _
  unfold mBr j_Mo_done_L175
  simp (decide := true) only [if_true, if_false, bV_id]
theorem pf_3 (r : Rel a b i base T F S c bb n hn h h) (x : Int32) : Good a b i base T F S c bb (j_Walk_perform i (nI 3) x a) (mBody RAN i (nI 3) x b) := by
  rcases pf_gen RAN r (k := 3) (t := 1) (m := 2) (by omega) rfl rfl (by omega) (by omega) (fun st => rfl) (by decide) x with ⟨⟨h1, h2⟩, e1, e2⟩ | ⟨e1, e2⟩
  · rw [e1, e2, cB_3, mB_3]
    have r2 := r.take (t := 1)
    have hH : gI (aT a i h 1) 19 i 0 = nI h := aT_19
    have q12 : h ≤ 12 := r.hi.2.2.2
    obtain ⟨h', rfl⟩ : ∃ h', h = h' + 1 := ⟨h - 1, by omega⟩
    rw [Nat.add_sub_cancel] at r2 ⊢
    exact (g_3 RAN r2 hH (by omega) x).of aT_same bT_same rfl rfl rfl
  · rw [e1, e2]
    exact gd_fail 11 (by omega) r
theorem cB_4 (x : Int32) (st : CwS) : cBr i (nI 4) x st = some (0, st) := by
  show cBr i 4 x st = _
  unfold cBr
  simp (decide := true) only [if_true, if_false, bV_id]
theorem mB_4 (x x6 : Int32) (st : CwS) : mBr RAN i (nI 4) x x6 st = j_Mo_done_L202 RAN i 4 x x6 st := by
  show mBr RAN i 4 x x6 st = _
  unfold mBr j_Mo_done_L175
  simp (decide := true) only [if_true, if_false, bV_id]
theorem pf_4 (r : Rel a b i base T F S c bb n hn h h) (x : Int32) : Good a b i base T F S c bb (j_Walk_perform i (nI 4) x a) (mBody RAN i (nI 4) x b) := by
  rcases pf_gen RAN r (k := 4) (t := 1) (m := 0) (by omega) rfl rfl (by omega) (by omega) (fun st => rfl) (by decide) x with ⟨⟨h1, h2⟩, e1, e2⟩ | ⟨e1, e2⟩
  · rw [e1, e2, cB_4, mB_4]
    have r2 := r.take (t := 1)
    have hH : gI (aT a i h 1) 19 i 0 = nI h := aT_19
    have q12 : h ≤ 12 := r.hi.2.2.2
    obtain ⟨h', rfl⟩ : ∃ h', h = h' + 1 := ⟨h - 1, by omega⟩
    rw [Nat.add_sub_cancel] at r2 ⊢
    exact (g_4 RAN r2 x _).of aT_same bT_same rfl rfl rfl
  · rw [e1, e2]
    exact gd_fail 11 (by omega) r
theorem cB_5 (x : Int32) (st : CwS) : cBr i (nI 5) x st = j_Walk_putSwapped i st := by
  show cBr i 5 x st = _
  unfold cBr
  simp (decide := true) only [if_true, if_false, bV_id]
theorem mB_5 (x x6 : Int32) (st : CwS) : mBr RAN i (nI 5) x x6 st = j_Mo_done_L202 RAN i 5 x x6 st := by
  show mBr RAN i 5 x x6 st = _
  unfold mBr j_Mo_done_L175
  simp (decide := true) only [if_true, if_false, bV_id]
theorem pf_5 (r : Rel a b i base T F S c bb n hn h h) (x : Int32) : Good a b i base T F S c bb (j_Walk_perform i (nI 5) x a) (mBody RAN i (nI 5) x b) := by
  rcases pf_gen RAN r (k := 5) (t := 2) (m := 2) (by omega) rfl rfl (by omega) (by omega) (fun st => rfl) (by decide) x with ⟨⟨h1, h2⟩, e1, e2⟩ | ⟨e1, e2⟩
  · rw [e1, e2, cB_5, mB_5]
    have r2 := r.take (t := 2)
    have hH : gI (aT a i h 2) 19 i 0 = nI h := aT_19
    have q12 : h ≤ 12 := r.hi.2.2.2
    obtain ⟨h', rfl⟩ : ∃ h', h = h' + 2 := ⟨h - 2, by omega⟩
    rw [Nat.add_sub_cancel] at r2 ⊢
    exact (g_5 RAN r2 hH x).of aT_same bT_same rfl rfl rfl
  · rw [e1, e2]
    exact gd_fail 11 (by omega) r
theorem cB_6 (x : Int32) (st : CwS) : cBr i (nI 6) x st = j_Walk_calculate i 6 st := by
  show cBr i 6 x st = _
  unfold cBr
  simp (decide := true) only [if_true, if_false, bV_id]
theorem mB_6 (x x6 : Int32) (st : CwS) : mBr RAN i (nI 6) x x6 st = j_Mo_reckoned i 6 x6 st := by
  show mBr RAN i 6 x x6 st = _
  unfold mBr
  simp (decide := true) only [if_true, if_false, bV_id]
theorem pf_6 (r : Rel a b i base T F S c bb n hn h h) (x : Int32) : Good a b i base T F S c bb (j_Walk_perform i (nI 6) x a) (mBody RAN i (nI 6) x b) := by
  rcases pf_gen RAN r (k := 6) (t := 2) (m := 1) (by omega) rfl rfl (by omega) (by omega) (fun st => rfl) (by decide) x with ⟨⟨h1, h2⟩, e1, e2⟩ | ⟨e1, e2⟩
  · rw [e1, e2, cB_6, mB_6]
    have r2 := r.take (t := 2)
    have hH : gI (aT a i h 2) 19 i 0 = nI h := aT_19
    have q12 : h ≤ 12 := r.hi.2.2.2
    obtain ⟨h', rfl⟩ : ∃ h', h = h' + 2 := ⟨h - 2, by omega⟩
    rw [Nat.add_sub_cancel] at r2 ⊢
    exact (g_6 r2 hH).of aT_same bT_same rfl rfl rfl
  · rw [e1, e2]
    exact gd_fail 11 (by omega) r
theorem cB_7 (x : Int32) (st : CwS) : cBr i (nI 7) x st = j_Walk_calculate i 7 st := by
  show cBr i 7 x st = _
  unfold cBr
  simp (decide := true) only [if_true, if_false, bV_id]
theorem mB_7 (x x6 : Int32) (st : CwS) : mBr RAN i (nI 7) x x6 st = j_Mo_reckoned i 7 x6 st := by
  show mBr RAN i 7 x x6 st = _
  unfold mBr
  simp (decide := true) only [if_true, if_false, bV_id]
theorem pf_7 (r : Rel a b i base T F S c bb n hn h h) (x : Int32) : Good a b i base T F S c bb (j_Walk_perform i (nI 7) x a) (mBody RAN i (nI 7) x b) := by
  rcases pf_gen RAN r (k := 7) (t := 2) (m := 1) (by omega) rfl rfl (by omega) (by omega) (fun st => rfl) (by decide) x with ⟨⟨h1, h2⟩, e1, e2⟩ | ⟨e1, e2⟩
  · rw [e1, e2, cB_7, mB_7]
    have r2 := r.take (t := 2)
    have hH : gI (aT a i h 2) 19 i 0 = nI h := aT_19
    have q12 : h ≤ 12 := r.hi.2.2.2
    obtain ⟨h', rfl⟩ : ∃ h', h = h' + 2 := ⟨h - 2, by omega⟩
    rw [Nat.add_sub_cancel] at r2 ⊢
    exact (g_7 r2 hH).of aT_same bT_same rfl rfl rfl
  · rw [e1, e2]
    exact gd_fail 11 (by omega) r
theorem cB_8 (x : Int32) (st : CwS) : cBr i (nI 8) x st = j_Walk_calculate i 8 st := by
  show cBr i 8 x st = _
  unfold cBr
  simp (decide := true) only [if_true, if_false, bV_id]
theorem mB_8 (x x6 : Int32) (st : CwS) : mBr RAN i (nI 8) x x6 st = j_Mo_reckoned i 8 x6 st := by
  show mBr RAN i 8 x x6 st = _
  unfold mBr
  simp (decide := true) only [if_true, if_false, bV_id]
theorem pf_8 (r : Rel a b i base T F S c bb n hn h h) (x : Int32) : Good a b i base T F S c bb (j_Walk_perform i (nI 8) x a) (mBody RAN i (nI 8) x b) := by
  rcases pf_gen RAN r (k := 8) (t := 2) (m := 1) (by omega) rfl rfl (by omega) (by omega) (fun st => rfl) (by decide) x with ⟨⟨h1, h2⟩, e1, e2⟩ | ⟨e1, e2⟩
  · rw [e1, e2, cB_8, mB_8]
    have r2 := r.take (t := 2)
    have hH : gI (aT a i h 2) 19 i 0 = nI h := aT_19
    have q12 : h ≤ 12 := r.hi.2.2.2
    obtain ⟨h', rfl⟩ : ∃ h', h = h' + 2 := ⟨h - 2, by omega⟩
    rw [Nat.add_sub_cancel] at r2 ⊢
    exact (g_8 r2 hH).of aT_same bT_same rfl rfl rfl
  · rw [e1, e2]
    exact gd_fail 11 (by omega) r
theorem cB_9 (x : Int32) (st : CwS) : cBr i (nI 9) x st = j_Walk_calculate i 9 st := by
  show cBr i 9 x st = _
  unfold cBr
  simp (decide := true) only [if_true, if_false, bV_id]
theorem mB_9 (x x6 : Int32) (st : CwS) : mBr RAN i (nI 9) x x6 st = j_Mo_reckoned i 9 x6 st := by
  show mBr RAN i 9 x x6 st = _
  unfold mBr
  simp (decide := true) only [if_true, if_false, bV_id]
theorem pf_9 (r : Rel a b i base T F S c bb n hn h h) (x : Int32) : Good a b i base T F S c bb (j_Walk_perform i (nI 9) x a) (mBody RAN i (nI 9) x b) := by
  rcases pf_gen RAN r (k := 9) (t := 2) (m := 1) (by omega) rfl rfl (by omega) (by omega) (fun st => rfl) (by decide) x with ⟨⟨h1, h2⟩, e1, e2⟩ | ⟨e1, e2⟩
  · rw [e1, e2, cB_9, mB_9]
    have r2 := r.take (t := 2)
    have hH : gI (aT a i h 2) 19 i 0 = nI h := aT_19
    have q12 : h ≤ 12 := r.hi.2.2.2
    obtain ⟨h', rfl⟩ : ∃ h', h = h' + 2 := ⟨h - 2, by omega⟩
    rw [Nat.add_sub_cancel] at r2 ⊢
    exact (g_9 r2 hH).of aT_same bT_same rfl rfl rfl
  · rw [e1, e2]
    exact gd_fail 11 (by omega) r
theorem cB_10 (x : Int32) (st : CwS) : cBr i (nI 10) x st = j_Walk_calculate i 10 st := by
  show cBr i 10 x st = _
  unfold cBr
  simp (decide := true) only [if_true, if_false, bV_id]
theorem mB_10 (x x6 : Int32) (st : CwS) : mBr RAN i (nI 10) x x6 st = j_Mo_reckoned i 10 x6 st := by
  show mBr RAN i 10 x x6 st = _
  unfold mBr
  simp (decide := true) only [if_true, if_false, bV_id]
theorem pf_10 (r : Rel a b i base T F S c bb n hn h h) (x : Int32) : Good a b i base T F S c bb (j_Walk_perform i (nI 10) x a) (mBody RAN i (nI 10) x b) := by
  rcases pf_gen RAN r (k := 10) (t := 2) (m := 1) (by omega) rfl rfl (by omega) (by omega) (fun st => rfl) (by decide) x with ⟨⟨h1, h2⟩, e1, e2⟩ | ⟨e1, e2⟩
  · rw [e1, e2, cB_10, mB_10]
    have r2 := r.take (t := 2)
    have hH : gI (aT a i h 2) 19 i 0 = nI h := aT_19
    have q12 : h ≤ 12 := r.hi.2.2.2
    obtain ⟨h', rfl⟩ : ∃ h', h = h' + 2 := ⟨h - 2, by omega⟩
    rw [Nat.add_sub_cancel] at r2 ⊢
    exact (g_10 r2 hH).of aT_same bT_same rfl rfl rfl
  · rw [e1, e2]
    exact gd_fail 11 (by omega) r
theorem cB_11 (x : Int32) (st : CwS) : cBr i (nI 11) x st = j_Walk_calculate i 11 st := by
  show cBr i 11 x st = _
  unfold cBr
  simp (decide := true) only [if_true, if_false, bV_id]
theorem mB_11 (x x6 : Int32) (st : CwS) : mBr RAN i (nI 11) x x6 st = j_Mo_reckoned i 11 x6 st := by
  show mBr RAN i 11 x x6 st = _
  unfold mBr
  simp (decide := true) only [if_true, if_false, bV_id]
theorem pf_11 (r : Rel a b i base T F S c bb n hn h h) (x : Int32) : Good a b i base T F S c bb (j_Walk_perform i (nI 11) x a) (mBody RAN i (nI 11) x b) := by
  rcases pf_gen RAN r (k := 11) (t := 2) (m := 1) (by omega) rfl rfl (by omega) (by omega) (fun st => rfl) (by decide) x with ⟨⟨h1, h2⟩, e1, e2⟩ | ⟨e1, e2⟩
  · rw [e1, e2, cB_11, mB_11]
    have r2 := r.take (t := 2)
    have hH : gI (aT a i h 2) 19 i 0 = nI h := aT_19
    have q12 : h ≤ 12 := r.hi.2.2.2
    obtain ⟨h', rfl⟩ : ∃ h', h = h' + 2 := ⟨h - 2, by omega⟩
    rw [Nat.add_sub_cancel] at r2 ⊢
    exact (g_11 r2 hH).of aT_same bT_same rfl rfl rfl
  · rw [e1, e2]
    exact gd_fail 11 (by omega) r
theorem cB_12 (x : Int32) (st : CwS) : cBr i (nI 12) x st = j_Walk_calculate i 12 st := by
  show cBr i 12 x st = _
  unfold cBr
  simp (decide := true) only [if_true, if_false, bV_id]
theorem mB_12 (x x6 : Int32) (st : CwS) : mBr RAN i (nI 12) x x6 st = j_Mo_reckoned i 12 x6 st := by
  show mBr RAN i 12 x x6 st = _
  unfold mBr
  simp (decide := true) only [if_true, if_false, bV_id]
theorem pf_12 (r : Rel a b i base T F S c bb n hn h h) (x : Int32) : Good a b i base T F S c bb (j_Walk_perform i (nI 12) x a) (mBody RAN i (nI 12) x b) := by
  rcases pf_gen RAN r (k := 12) (t := 2) (m := 1) (by omega) rfl rfl (by omega) (by omega) (fun st => rfl) (by decide) x with ⟨⟨h1, h2⟩, e1, e2⟩ | ⟨e1, e2⟩
  · rw [e1, e2, cB_12, mB_12]
    have r2 := r.take (t := 2)
    have hH : gI (aT a i h 2) 19 i 0 = nI h := aT_19
    have q12 : h ≤ 12 := r.hi.2.2.2
    obtain ⟨h', rfl⟩ : ∃ h', h = h' + 2 := ⟨h - 2, by omega⟩
    rw [Nat.add_sub_cancel] at r2 ⊢
    exact (g_12 r2 hH).of aT_same bT_same rfl rfl rfl
  · rw [e1, e2]
    exact gd_fail 11 (by omega) r
theorem cB_13 (x : Int32) (st : CwS) : cBr i (nI 13) x st = j_Frame_jump i x st := by
  show cBr i 13 x st = _
  unfold cBr
  simp (decide := true) only [if_true, if_false, bV_id]
theorem mB_13 (x x6 : Int32) (st : CwS) : mBr RAN i (nI 13) x x6 st = j_Mo_done_L202 RAN i 13 x x6 st := by
  show mBr RAN i 13 x x6 st = _
  unfold mBr j_Mo_done_L175
  simp (decide := true) only [if_true, if_false, bV_id]
theorem pf_13 (r : Rel a b i base T F S c bb n hn h h) (x : Int32) : Good a b i base T F S c bb (j_Walk_perform i (nI 13) x a) (mBody RAN i (nI 13) x b) := by
  rcases pf_gen RAN r (k := 13) (t := 0) (m := 0) (by omega) rfl rfl (by omega) (by omega) (fun st => rfl) (by decide) x with ⟨⟨h1, h2⟩, e1, e2⟩ | ⟨e1, e2⟩
  · rw [e1, e2, cB_13, mB_13]
    have r2 := r.take (t := 0)
    have hH : gI (aT a i h 0) 19 i 0 = nI h := aT_19
    have q12 : h ≤ 12 := r.hi.2.2.2
    rw [Nat.sub_zero] at r2 ⊢
    exact (g_13 RAN r2 x _).of aT_same bT_same rfl rfl rfl
  · rw [e1, e2]
    exact gd_fail 11 (by omega) r
theorem cB_14 (x : Int32) (st : CwS) : cBr i (nI 14) x st = j_Walk_jumpIfZero i x st := by
  show cBr i 14 x st = _
  unfold cBr
  simp (decide := true) only [if_true, if_false, bV_id]
theorem mB_14 (x x6 : Int32) (st : CwS) : mBr RAN i (nI 14) x x6 st = j_Mo_done_L202 RAN i 14 x x6 st := by
  show mBr RAN i 14 x x6 st = _
  unfold mBr j_Mo_done_L175
  simp (decide := true) only [if_true, if_false, bV_id]
theorem pf_14 (r : Rel a b i base T F S c bb n hn h h) (x : Int32) : Good a b i base T F S c bb (j_Walk_perform i (nI 14) x a) (mBody RAN i (nI 14) x b) := by
  rcases pf_gen RAN r (k := 14) (t := 1) (m := 0) (by omega) rfl rfl (by omega) (by omega) (fun st => rfl) (by decide) x with ⟨⟨h1, h2⟩, e1, e2⟩ | ⟨e1, e2⟩
  · rw [e1, e2, cB_14, mB_14]
    have r2 := r.take (t := 1)
    have hH : gI (aT a i h 1) 19 i 0 = nI h := aT_19
    have q12 : h ≤ 12 := r.hi.2.2.2
    obtain ⟨h', rfl⟩ : ∃ h', h = h' + 1 := ⟨h - 1, by omega⟩
    rw [Nat.add_sub_cancel] at r2 ⊢
    exact (g_14 RAN r2 hH x).of aT_same bT_same rfl rfl rfl
  · rw [e1, e2]
    exact gd_fail 11 (by omega) r
theorem cB_15 (x : Int32) (st : CwS) : cBr i (nI 15) x st = j_Rows_putNew i 1 st := by
  show cBr i 15 x st = _
  unfold cBr
  simp (decide := true) only [if_true, if_false, bV_id]
theorem mB_15 (x x6 : Int32) (st : CwS) : mBr RAN i (nI 15) x x6 st = j_Mo_rowed i 15 x6 st := by
  show mBr RAN i 15 x x6 st = _
  unfold mBr j_Mo_done_L175
  simp (decide := true) only [if_true, if_false, bV_id]
theorem pf_15 (r : Rel a b i base T F S c bb n hn h h) (x : Int32) : Good a b i base T F S c bb (j_Walk_perform i (nI 15) x a) (mBody RAN i (nI 15) x b) := by
  rcases pf_gen RAN r (k := 15) (t := 1) (m := 1) (by omega) rfl rfl (by omega) (by omega) (fun st => rfl) (by decide) x with ⟨⟨h1, h2⟩, e1, e2⟩ | ⟨e1, e2⟩
  · rw [e1, e2, cB_15, mB_15]
    have r2 := r.take (t := 1)
    have hH : gI (aT a i h 1) 19 i 0 = nI h := aT_19
    have q12 : h ≤ 12 := r.hi.2.2.2
    obtain ⟨h', rfl⟩ : ∃ h', h = h' + 1 := ⟨h - 1, by omega⟩
    rw [Nat.add_sub_cancel] at r2 ⊢
    exact (g_15 r2 hH).of aT_same bT_same rfl rfl rfl
  · rw [e1, e2]
    exact gd_fail 11 (by omega) r
theorem cB_16 (x : Int32) (st : CwS) : cBr i (nI 16) x st = j_Rows_putNew i 2 st := by
  show cBr i 16 x st = _
  unfold cBr
  simp (decide := true) only [if_true, if_false, bV_id]
theorem mB_16 (x x6 : Int32) (st : CwS) : mBr RAN i (nI 16) x x6 st = j_Mo_rowed i 16 x6 st := by
  show mBr RAN i 16 x x6 st = _
  unfold mBr j_Mo_done_L175
  simp (decide := true) only [if_true, if_false, bV_id]
theorem pf_16 (r : Rel a b i base T F S c bb n hn h h) (x : Int32) : Good a b i base T F S c bb (j_Walk_perform i (nI 16) x a) (mBody RAN i (nI 16) x b) := by
  rcases pf_gen RAN r (k := 16) (t := 1) (m := 1) (by omega) rfl rfl (by omega) (by omega) (fun st => rfl) (by decide) x with ⟨⟨h1, h2⟩, e1, e2⟩ | ⟨e1, e2⟩
  · rw [e1, e2, cB_16, mB_16]
    have r2 := r.take (t := 1)
    have hH : gI (aT a i h 1) 19 i 0 = nI h := aT_19
    have q12 : h ≤ 12 := r.hi.2.2.2
    obtain ⟨h', rfl⟩ : ∃ h', h = h' + 1 := ⟨h - 1, by omega⟩
    rw [Nat.add_sub_cancel] at r2 ⊢
    exact (g_16 r2 hH).of aT_same bT_same rfl rfl rfl
  · rw [e1, e2]
    exact gd_fail 11 (by omega) r
theorem cB_17 (x : Int32) (st : CwS) : cBr i (nI 17) x st = j_Rows_putElement i 1 st := by
  show cBr i 17 x st = _
  unfold cBr
  simp (decide := true) only [if_true, if_false, bV_id]
theorem mB_17 (x x6 : Int32) (st : CwS) : mBr RAN i (nI 17) x x6 st = j_Mo_rowed i 17 x6 st := by
  show mBr RAN i 17 x x6 st = _
  unfold mBr j_Mo_done_L175
  simp (decide := true) only [if_true, if_false, bV_id]
theorem pf_17 (r : Rel a b i base T F S c bb n hn h h) (x : Int32) : Good a b i base T F S c bb (j_Walk_perform i (nI 17) x a) (mBody RAN i (nI 17) x b) := by
  rcases pf_gen RAN r (k := 17) (t := 2) (m := 1) (by omega) rfl rfl (by omega) (by omega) (fun st => rfl) (by decide) x with ⟨⟨h1, h2⟩, e1, e2⟩ | ⟨e1, e2⟩
  · rw [e1, e2, cB_17, mB_17]
    have r2 := r.take (t := 2)
    have hH : gI (aT a i h 2) 19 i 0 = nI h := aT_19
    have q12 : h ≤ 12 := r.hi.2.2.2
    obtain ⟨h', rfl⟩ : ∃ h', h = h' + 2 := ⟨h - 2, by omega⟩
    rw [Nat.add_sub_cancel] at r2 ⊢
    exact (g_17 r2 hH).of aT_same bT_same rfl rfl rfl
  · rw [e1, e2]
    exact gd_fail 11 (by omega) r
theorem cB_18 (x : Int32) (st : CwS) : cBr i (nI 18) x st = j_Rows_putElement i 2 st := by
  show cBr i 18 x st = _
  unfold cBr
  simp (decide := true) only [if_true, if_false, bV_id]
theorem mB_18 (x x6 : Int32) (st : CwS) : mBr RAN i (nI 18) x x6 st = j_Mo_rowed i 18 x6 st := by
  show mBr RAN i 18 x x6 st = _
  unfold mBr j_Mo_done_L175
  simp (decide := true) only [if_true, if_false, bV_id]
theorem pf_18 (r : Rel a b i base T F S c bb n hn h h) (x : Int32) : Good a b i base T F S c bb (j_Walk_perform i (nI 18) x a) (mBody RAN i (nI 18) x b) := by
  rcases pf_gen RAN r (k := 18) (t := 2) (m := 1) (by omega) rfl rfl (by omega) (by omega) (fun st => rfl) (by decide) x with ⟨⟨h1, h2⟩, e1, e2⟩ | ⟨e1, e2⟩
  · rw [e1, e2, cB_18, mB_18]
    have r2 := r.take (t := 2)
    have hH : gI (aT a i h 2) 19 i 0 = nI h := aT_19
    have q12 : h ≤ 12 := r.hi.2.2.2
    obtain ⟨h', rfl⟩ : ∃ h', h = h' + 2 := ⟨h - 2, by omega⟩
    rw [Nat.add_sub_cancel] at r2 ⊢
    exact (g_18 r2 hH).of aT_same bT_same rfl rfl rfl
  · rw [e1, e2]
    exact gd_fail 11 (by omega) r
theorem cB_19 (x : Int32) (st : CwS) : cBr i (nI 19) x st = j_Rows_changeElement i 1 st := by
  show cBr i 19 x st = _
  unfold cBr
  simp (decide := true) only [if_true, if_false, bV_id]
theorem mB_19 (x x6 : Int32) (st : CwS) : mBr RAN i (nI 19) x x6 st = j_Mo_rowed i 19 x6 st := by
  show mBr RAN i 19 x x6 st = _
  unfold mBr j_Mo_done_L175
  simp (decide := true) only [if_true, if_false, bV_id]
theorem pf_19 (r : Rel a b i base T F S c bb n hn h h) (x : Int32) : Good a b i base T F S c bb (j_Walk_perform i (nI 19) x a) (mBody RAN i (nI 19) x b) := by
  rcases pf_gen RAN r (k := 19) (t := 3) (m := 0) (by omega) rfl rfl (by omega) (by omega) (fun st => rfl) (by decide) x with ⟨⟨h1, h2⟩, e1, e2⟩ | ⟨e1, e2⟩
  · rw [e1, e2, cB_19, mB_19]
    have r2 := r.take (t := 3)
    have hH : gI (aT a i h 3) 19 i 0 = nI h := aT_19
    have q12 : h ≤ 12 := r.hi.2.2.2
    obtain ⟨h', rfl⟩ : ∃ h', h = h' + 3 := ⟨h - 3, by omega⟩
    rw [Nat.add_sub_cancel] at r2 ⊢
    exact (g_19 r2 hH).of aT_same bT_same rfl rfl rfl
  · rw [e1, e2]
    exact gd_fail 11 (by omega) r
theorem cB_20 (x : Int32) (st : CwS) : cBr i (nI 20) x st = j_Rows_changeElement i 2 st := by
  show cBr i 20 x st = _
  unfold cBr
  simp (decide := true) only [if_true, if_false, bV_id]
theorem mB_20 (x x6 : Int32) (st : CwS) : mBr RAN i (nI 20) x x6 st = j_Mo_rowed i 20 x6 st := by
  show mBr RAN i 20 x x6 st = _
  unfold mBr j_Mo_done_L175
  simp (decide := true) only [if_true, if_false, bV_id]
theorem pf_20 (r : Rel a b i base T F S c bb n hn h h) (x : Int32) : Good a b i base T F S c bb (j_Walk_perform i (nI 20) x a) (mBody RAN i (nI 20) x b) := by
  rcases pf_gen RAN r (k := 20) (t := 3) (m := 0) (by omega) rfl rfl (by omega) (by omega) (fun st => rfl) (by decide) x with ⟨⟨h1, h2⟩, e1, e2⟩ | ⟨e1, e2⟩
  · rw [e1, e2, cB_20, mB_20]
    have r2 := r.take (t := 3)
    have hH : gI (aT a i h 3) 19 i 0 = nI h := aT_19
    have q12 : h ≤ 12 := r.hi.2.2.2
    obtain ⟨h', rfl⟩ : ∃ h', h = h' + 3 := ⟨h - 3, by omega⟩
    rw [Nat.add_sub_cancel] at r2 ⊢
    exact (g_20 r2 hH).of aT_same bT_same rfl rfl rfl
  · rw [e1, e2]
    exact gd_fail 11 (by omega) r
theorem cB_21 (x : Int32) (st : CwS) : cBr i (nI 21) x st = j_Rows_putLength i st := by
  show cBr i 21 x st = _
  unfold cBr
  simp (decide := true) only [if_true, if_false, bV_id]
theorem mB_21 (x x6 : Int32) (st : CwS) : mBr RAN i (nI 21) x x6 st = j_Mo_rowed i 21 x6 st := by
  show mBr RAN i 21 x x6 st = _
  unfold mBr j_Mo_done_L175
  simp (decide := true) only [if_true, if_false, bV_id]
theorem pf_21 (r : Rel a b i base T F S c bb n hn h h) (x : Int32) : Good a b i base T F S c bb (j_Walk_perform i (nI 21) x a) (mBody RAN i (nI 21) x b) := by
  rcases pf_gen RAN r (k := 21) (t := 1) (m := 1) (by omega) rfl rfl (by omega) (by omega) (fun st => rfl) (by decide) x with ⟨⟨h1, h2⟩, e1, e2⟩ | ⟨e1, e2⟩
  · rw [e1, e2, cB_21, mB_21]
    have r2 := r.take (t := 1)
    have hH : gI (aT a i h 1) 19 i 0 = nI h := aT_19
    have q12 : h ≤ 12 := r.hi.2.2.2
    obtain ⟨h', rfl⟩ : ∃ h', h = h' + 1 := ⟨h - 1, by omega⟩
    rw [Nat.add_sub_cancel] at r2 ⊢
    exact (g_21 r2 hH).of aT_same bT_same rfl rfl rfl
  · rw [e1, e2]
    exact gd_fail 11 (by omega) r
theorem cB_22 (x : Int32) (st : CwS) : cBr i (nI 22) x st = j_Pile_put i 3 0 st := by
  show cBr i 22 x st = _
  unfold cBr
  simp (decide := true) only [if_true, if_false, bV_id]
theorem mB_22 (x x6 : Int32) (st : CwS) : mBr RAN i (nI 22) x x6 st = j_Mo_done_L202 RAN i 22 x x6 st := by
  show mBr RAN i 22 x x6 st = _
  unfold mBr j_Mo_done_L175
  simp (decide := true) only [if_true, if_false, bV_id]
theorem pf_22 (r : Rel a b i base T F S c bb n hn h h) (x : Int32) : Good a b i base T F S c bb (j_Walk_perform i (nI 22) x a) (mBody RAN i (nI 22) x b) := by
  rcases pf_gen RAN r (k := 22) (t := 0) (m := 1) (by omega) rfl rfl (by omega) (by omega) (fun st => rfl) (by decide) x with ⟨⟨h1, h2⟩, e1, e2⟩ | ⟨e1, e2⟩
  · rw [e1, e2, cB_22, mB_22]
    have r2 := r.take (t := 0)
    have hH : gI (aT a i h 0) 19 i 0 = nI h := aT_19
    have q12 : h ≤ 12 := r.hi.2.2.2
    rw [Nat.sub_zero] at r2 ⊢
    exact (g_22 RAN r2 (by omega) x _).of aT_same bT_same rfl rfl rfl
  · rw [e1, e2]
    exact gd_fail 11 (by omega) r
theorem cB_23 (x : Int32) (st : CwS) : cBr i (nI 23) x st = j_Rows_copyElements i st := by
  show cBr i 23 x st = _
  unfold cBr
  simp (decide := true) only [if_true, if_false, bV_id]
theorem mB_23 (x x6 : Int32) (st : CwS) : mBr RAN i (nI 23) x x6 st = j_Mo_rowed i 23 x6 st := by
  show mBr RAN i 23 x x6 st = _
  unfold mBr j_Mo_done_L175
  simp (decide := true) only [if_true, if_false, bV_id]
theorem pf_23 (r : Rel a b i base T F S c bb n hn h h) (x : Int32) : Good a b i base T F S c bb (j_Walk_perform i (nI 23) x a) (mBody RAN i (nI 23) x b) := by
  rcases pf_gen RAN r (k := 23) (t := 5) (m := 0) (by omega) rfl rfl (by omega) (by omega) (fun st => rfl) (by decide) x with ⟨⟨h1, h2⟩, e1, e2⟩ | ⟨e1, e2⟩
  · rw [e1, e2, cB_23, mB_23]
    have r2 := r.take (t := 5)
    have hH : gI (aT a i h 5) 19 i 0 = nI h := aT_19
    have q12 : h ≤ 12 := r.hi.2.2.2
    obtain ⟨h', rfl⟩ : ∃ h', h = h' + 5 := ⟨h - 5, by omega⟩
    rw [Nat.add_sub_cancel] at r2 ⊢
    exact (g_23 r2 hH).of aT_same bT_same rfl rfl rfl
  · rw [e1, e2]
    exact gd_fail 11 (by omega) r
theorem cB_24 (x : Int32) (st : CwS) : cBr i (nI 24) x st = j_Frame_addHandler i x st := by
  show cBr i 24 x st = _
  unfold cBr
  simp (decide := true) only [if_true, if_false, bV_id]
theorem mB_24 (x x6 : Int32) (st : CwS) : mBr RAN i (nI 24) x x6 st = j_Mo_done_L202 RAN i 24 x x6 st := by
  show mBr RAN i 24 x x6 st = _
  unfold mBr j_Mo_done_L175
  simp (decide := true) only [if_true, if_false, bV_id]
theorem pf_24 (r : Rel a b i base T F S c bb n hn h h) (x : Int32) : Good a b i base T F S c bb (j_Walk_perform i (nI 24) x a) (mBody RAN i (nI 24) x b) := by
  rcases pf_gen RAN r (k := 24) (t := 0) (m := 0) (by omega) rfl rfl (by omega) (by omega) (fun st => rfl) (by decide) x with ⟨⟨h1, h2⟩, e1, e2⟩ | ⟨e1, e2⟩
  · rw [e1, e2, cB_24, mB_24]
    have r2 := r.take (t := 0)
    have hH : gI (aT a i h 0) 19 i 0 = nI h := aT_19
    have q12 : h ≤ 12 := r.hi.2.2.2
    rw [Nat.sub_zero] at r2 ⊢
    exact (g_24 RAN r2 x _).of aT_same bT_same rfl rfl rfl
  · rw [e1, e2]
    exact gd_fail 11 (by omega) r
theorem cB_25 (x : Int32) (st : CwS) : cBr i (nI 25) x st = j_Frame_dropHandler i st := by
  show cBr i 25 x st = _
  unfold cBr
  simp (decide := true) only [if_true, if_false, bV_id]
theorem mB_25 (x x6 : Int32) (st : CwS) : mBr RAN i (nI 25) x x6 st = j_Mo_done_L202 RAN i 25 x x6 st := by
  show mBr RAN i 25 x x6 st = _
  unfold mBr j_Mo_done_L175
  simp (decide := true) only [if_true, if_false, bV_id]
theorem pf_25 (r : Rel a b i base T F S c bb n hn h h) (x : Int32) : Good a b i base T F S c bb (j_Walk_perform i (nI 25) x a) (mBody RAN i (nI 25) x b) := by
  rcases pf_gen RAN r (k := 25) (t := 0) (m := 0) (by omega) rfl rfl (by omega) (by omega) (fun st => rfl) (by decide) x with ⟨⟨h1, h2⟩, e1, e2⟩ | ⟨e1, e2⟩
  · rw [e1, e2, cB_25, mB_25]
    have r2 := r.take (t := 0)
    have hH : gI (aT a i h 0) 19 i 0 = nI h := aT_19
    have q12 : h ≤ 12 := r.hi.2.2.2
    rw [Nat.sub_zero] at r2 ⊢
    exact (g_25 RAN r2 x _).of aT_same bT_same rfl rfl rfl
  · rw [e1, e2]
    exact gd_fail 11 (by omega) r
theorem cB_26 (x : Int32) (st : CwS) : cBr i (nI 26) x st = (if x < 0 then some (12, st) else if (7 : Int32) < x then some (12, st) else some (13 + x, st)) := by
  show cBr i 26 x st = _
  unfold cBr
  simp (decide := true) only [if_true, if_false, bV_id]
theorem mB_26 (x x6 : Int32) (st : CwS) : mBr RAN i (nI 26) x x6 st = j_Mo_done_L202 RAN i 26 x x6 st := by
  show mBr RAN i 26 x x6 st = _
  unfold mBr j_Mo_done_L175
  simp (decide := true) only [if_true, if_false, bV_id]
theorem pf_26 (r : Rel a b i base T F S c bb n hn h h) (x : Int32) : Good a b i base T F S c bb (j_Walk_perform i (nI 26) x a) (mBody RAN i (nI 26) x b) := by
  rcases pf_gen RAN r (k := 26) (t := 0) (m := 0) (by omega) rfl rfl (by omega) (by omega) (fun st => rfl) (by decide) x with ⟨⟨h1, h2⟩, e1, e2⟩ | ⟨e1, e2⟩
  · rw [e1, e2, cB_26, mB_26]
    have r2 := r.take (t := 0)
    have hH : gI (aT a i h 0) 19 i 0 = nI h := aT_19
    have q12 : h ≤ 12 := r.hi.2.2.2
    rw [Nat.sub_zero] at r2 ⊢
    exact (g_26 RAN r2 x _).of aT_same bT_same rfl rfl rfl
  · rw [e1, e2]
    exact gd_fail 11 (by omega) r
theorem cB_28 (x : Int32) (st : CwS) : cBr i (nI 28) x st = j_Walk_tellEvent i st := by
  show cBr i 28 x st = _
  unfold cBr
  simp (decide := true) only [if_true, if_false, bV_id]
theorem mB_28 (x x6 : Int32) (st : CwS) : mBr RAN i (nI 28) x x6 st = j_Mo_done_L202 RAN i 28 x x6 st := by
  show mBr RAN i 28 x x6 st = _
  unfold mBr j_Mo_done_L175
  simp (decide := true) only [if_true, if_false, bV_id]
theorem pf_28 (r : Rel a b i base T F S c bb n hn h h) (x : Int32) : Good a b i base T F S c bb (j_Walk_perform i (nI 28) x a) (mBody RAN i (nI 28) x b) := by
  rcases pf_gen RAN r (k := 28) (t := 1) (m := 0) (by omega) rfl rfl (by omega) (by omega) (fun st => rfl) (by decide) x with ⟨⟨h1, h2⟩, e1, e2⟩ | ⟨e1, e2⟩
  · rw [e1, e2, cB_28, mB_28]
    have r2 := r.take (t := 1)
    have hH : gI (aT a i h 1) 19 i 0 = nI h := aT_19
    have q12 : h ≤ 12 := r.hi.2.2.2
    obtain ⟨h', rfl⟩ : ∃ h', h = h' + 1 := ⟨h - 1, by omega⟩
    rw [Nat.add_sub_cancel] at r2 ⊢
    exact (g_28 RAN r2 hH x).of aT_same bT_same rfl rfl rfl
  · rw [e1, e2]
    exact gd_fail 11 (by omega) r
theorem cB_30 (x : Int32) (st : CwS) : cBr i (nI 30) x st = ck (ix (gI st 13 i 0) 8) (j_Pile_putNumber i (gL st 1 0 ((gI st 13 i 0).toNatClampNeg)) st) := by
  show cBr i 30 x st = _
  unfold cBr
  simp (decide := true) only [if_true, if_false, bV_id]
theorem mB_30 (x x6 : Int32) (st : CwS) : mBr RAN i (nI 30) x x6 st = j_Mo_done_L202 RAN i 30 x x6 st := by
  show mBr RAN i 30 x x6 st = _
  unfold mBr j_Mo_done_L175
  simp (decide := true) only [if_true, if_false, bV_id]
theorem pf_30 (r : Rel a b i base T F S c bb n hn h h) (x : Int32) : Good a b i base T F S c bb (j_Walk_perform i (nI 30) x a) (mBody RAN i (nI 30) x b) := by
  rcases pf_gen RAN r (k := 30) (t := 0) (m := 1) (by omega) rfl rfl (by omega) (by omega) (fun st => rfl) (by decide) x with ⟨⟨h1, h2⟩, e1, e2⟩ | ⟨e1, e2⟩
  · rw [e1, e2, cB_30, mB_30]
    have r2 := r.take (t := 0)
    have hH : gI (aT a i h 0) 19 i 0 = nI h := aT_19
    have q12 : h ≤ 12 := r.hi.2.2.2
    rw [Nat.sub_zero] at r2 ⊢
    exact (g_30 RAN r2 (by omega) x _).of aT_same bT_same rfl rfl rfl
  · rw [e1, e2]
    exact gd_fail 11 (by omega) r
theorem cB_31 (x : Int32) (st : CwS) : cBr i (nI 31) x st = j_Pile_putNumber i ((gI st 14 i 0).toInt64) st := by
  show cBr i 31 x st = _
  unfold cBr
  simp (decide := true) only [if_true, if_false, bV_id]
theorem mB_31 (x x6 : Int32) (st : CwS) : mBr RAN i (nI 31) x x6 st = j_Mo_done_L202 RAN i 31 x x6 st := by
  show mBr RAN i 31 x x6 st = _
  unfold mBr j_Mo_done_L175
  simp (decide := true) only [if_true, if_false, bV_id]
theorem pf_31 (r : Rel a b i base T F S c bb n hn h h) (x : Int32) : Good a b i base T F S c bb (j_Walk_perform i (nI 31) x a) (mBody RAN i (nI 31) x b) := by
  rcases pf_gen RAN r (k := 31) (t := 0) (m := 1) (by omega) rfl rfl (by omega) (by omega) (fun st => rfl) (by decide) x with ⟨⟨h1, h2⟩, e1, e2⟩ | ⟨e1, e2⟩
  · rw [e1, e2, cB_31, mB_31]
    have r2 := r.take (t := 0)
    have hH : gI (aT a i h 0) 19 i 0 = nI h := aT_19
    have q12 : h ≤ 12 := r.hi.2.2.2
    rw [Nat.sub_zero] at r2 ⊢
    exact (g_31 RAN r2 (by omega) x _).of aT_same bT_same rfl rfl rfl
  · rw [e1, e2]
    exact gd_fail 11 (by omega) r
theorem pf_un (r : Rel a b i base T F S c bb n hn h h) (x cd : Int32) (hu : cd < 0 ∨ (32 : Int32) ≤ cd) : Good a b i base T F S c bb (j_Walk_perform i cd x a) (mBody RAN i cd x b) := by
  have e1 : j_Walk_perform i cd x a = some (12, a) := by
    rw [perf_eq]
    rcases hu with z | z
    · rw [if_pos z]
    · split <;> rfl
  have nk : ∀ k : Nat, k < 32 → ¬ cd = nI k := by
    intro k hk z
    rcases hu with g | g
    · rw [z] at g; exact nI_pos (by omega) g
    · rw [z] at g; exact nI_ge (b := 32) hk (by omega) g
  have e2 : mBody RAN i cd x b = some (12, b) := by
    unfold mBody j_Mo_needs
    rw [if_neg (show ¬ cd = (0 : Int32) from nk 0 (by omega)), if_neg (show ¬ cd = (1 : Int32) from nk 1 (by omega)), if_neg (show ¬ cd = (2 : Int32) from nk 2 (by omega)), if_neg (show ¬ cd = (3 : Int32) from nk 3 (by omega)), if_neg (show ¬ cd = (4 : Int32) from nk 4 (by omega)), if_neg (show ¬ cd = (5 : Int32) from nk 5 (by omega)), if_neg (show ¬ cd = (6 : Int32) from nk 6 (by omega)), if_neg (show ¬ cd = (7 : Int32) from nk 7 (by omega)), if_neg (show ¬ cd = (8 : Int32) from nk 8 (by omega)), if_neg (show ¬ cd = (9 : Int32) from nk 9 (by omega)), if_neg (show ¬ cd = (10 : Int32) from nk 10 (by omega)), if_neg (show ¬ cd = (11 : Int32) from nk 11 (by omega)), if_neg (show ¬ cd = (12 : Int32) from nk 12 (by omega)), if_neg (show ¬ cd = (13 : Int32) from nk 13 (by omega)), if_neg (show ¬ cd = (14 : Int32) from nk 14 (by omega)), if_neg (show ¬ cd = (15 : Int32) from nk 15 (by omega)), if_neg (show ¬ cd = (16 : Int32) from nk 16 (by omega)), if_neg (show ¬ cd = (17 : Int32) from nk 17 (by omega)), if_neg (show ¬ cd = (18 : Int32) from nk 18 (by omega)), if_neg (show ¬ cd = (19 : Int32) from nk 19 (by omega)), if_neg (show ¬ cd = (20 : Int32) from nk 20 (by omega)), if_neg (show ¬ cd = (21 : Int32) from nk 21 (by omega)), if_neg (show ¬ cd = (22 : Int32) from nk 22 (by omega)), if_neg (show ¬ cd = (23 : Int32) from nk 23 (by omega)), if_neg (show ¬ cd = (24 : Int32) from nk 24 (by omega)), if_neg (show ¬ cd = (25 : Int32) from nk 25 (by omega)), if_neg (show ¬ cd = (26 : Int32) from nk 26 (by omega)), if_neg (show ¬ cd = (27 : Int32) from nk 27 (by omega)), if_neg (show ¬ cd = (28 : Int32) from nk 28 (by omega)), if_neg (show ¬ cd = (29 : Int32) from nk 29 (by omega)), if_neg (show ¬ cd = (30 : Int32) from nk 30 (by omega)), if_neg (show ¬ cd = (31 : Int32) from nk 31 (by omega)), bR_s, if_neg (by decide)]
  rw [e1, e2]
  exact gd_fail 12 (by omega) r
theorem pf_all (r : Rel a b i base T F S c bb n hn h h) (x : Int32) {k : Nat} (hk : k < 32) (h27 : k ≠ 27) (h29 : k ≠ 29) : Good a b i base T F S c bb (j_Walk_perform i (nI k) x a) (mBody RAN i (nI k) x b) := by
  match k, hk, h27, h29 with
  | 0, _, _, _ => exact pf_0 RAN r x
  | 1, _, _, _ => exact pf_1 RAN r x
  | 2, _, _, _ => exact pf_2 RAN r x
  | 3, _, _, _ => exact pf_3 RAN r x
  | 4, _, _, _ => exact pf_4 RAN r x
  | 5, _, _, _ => exact pf_5 RAN r x
  | 6, _, _, _ => exact pf_6 RAN r x
  | 7, _, _, _ => exact pf_7 RAN r x
  | 8, _, _, _ => exact pf_8 RAN r x
  | 9, _, _, _ => exact pf_9 RAN r x
  | 10, _, _, _ => exact pf_10 RAN r x
  | 11, _, _, _ => exact pf_11 RAN r x
  | 12, _, _, _ => exact pf_12 RAN r x
  | 13, _, _, _ => exact pf_13 RAN r x
  | 14, _, _, _ => exact pf_14 RAN r x
  | 15, _, _, _ => exact pf_15 RAN r x
  | 16, _, _, _ => exact pf_16 RAN r x
  | 17, _, _, _ => exact pf_17 RAN r x
  | 18, _, _, _ => exact pf_18 RAN r x
  | 19, _, _, _ => exact pf_19 RAN r x
  | 20, _, _, _ => exact pf_20 RAN r x
  | 21, _, _, _ => exact pf_21 RAN r x
  | 22, _, _, _ => exact pf_22 RAN r x
  | 23, _, _, _ => exact pf_23 RAN r x
  | 24, _, _, _ => exact pf_24 RAN r x
  | 25, _, _, _ => exact pf_25 RAN r x
  | 26, _, _, _ => exact pf_26 RAN r x
  | 27, _, z, _ => exact absurd rfl z
  | 28, _, _, _ => exact pf_28 RAN r x
  | 29, _, _, z => exact absurd rfl z
  | 30, _, _, _ => exact pf_30 RAN r x
  | 31, _, _, _ => exact pf_31 RAN r x
  | k + 32, z, _, _ => omega
