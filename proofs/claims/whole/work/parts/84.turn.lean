-- PURE: the round of the class, and the turn of the reference
def KP (K : Nat → CwS → Option (Int32 × CwS)) : Prop := ∀ (r : Nat) (a : CwS) (d : Nat), r < 1000000 → gI a 8 0 0 = nI (d + 1) → d < 10 → K r a = bV (j_Walk_advance d a) (K (r + 1))
/-- the reference's turn behind the step -/
def gAft (KK : CwS → Option (Int32 × CwS)) (i : Nat) (r3 : Int32) (st4 : CwS) : Option (Int32 × CwS) :=
      if r3 = ((100 : Int32)) then
        some (r3, st4)
      else
        if r3 = ((99 : Int32)) then
          some (r3, st4)
        else
          if r3 = ((0 : Int32)) then
            KK st4
          else
            if r3 ≤ ((0 : Int32)) then
              if (gI (sI st4 9 0 0 ((gI st4 9 0 0) + ((0 : Int32)))) 19 i 0) = ((0 : Int32)) then
                some (-r3, sI st4 9 0 0 ((gI st4 9 0 0) + ((0 : Int32))))
              else
                ck (ix (gI (sI (sI st4 9 0 0 ((gI st4 9 0 0) + ((0 : Int32)))) 19 i 0 ((gI (sI st4 9 0 0 ((gI st4 9 0 0) + ((0 : Int32)))) 19 i 0) - ((1 : Int32)))) 19 i 0) 4) <|
                bV (j_MF_number i ((-r3).toInt64) (sI (sI (sI st4 9 0 0 ((gI st4 9 0 0) + ((0 : Int32)))) 19 i 0 ((gI (sI st4 9 0 0 ((gI st4 9 0 0) + ((0 : Int32)))) 19 i 0) - ((1 : Int32)))) 18 i 0 (if (gI (sI (sI st4 9 0 0 ((gI st4 9 0 0) + ((0 : Int32)))) 19 i 0 ((gI (sI st4 9 0 0 ((gI st4 9 0 0) + ((0 : Int32)))) 19 i 0) - ((1 : Int32)))) 23 i ((gI (sI (sI st4 9 0 0 ((gI st4 9 0 0) + ((0 : Int32)))) 19 i 0 ((gI (sI st4 9 0 0 ((gI st4 9 0 0) + ((0 : Int32)))) 19 i 0) - ((1 : Int32)))) 19 i 0).toNatClampNeg)) < (gI (sI (sI st4 9 0 0 ((gI st4 9 0 0) + ((0 : Int32)))) 19 i 0 ((gI (sI st4 9 0 0 ((gI st4 9 0 0) + ((0 : Int32)))) 19 i 0) - ((1 : Int32)))) 18 i 0) then (gI (sI (sI st4 9 0 0 ((gI st4 9 0 0) + ((0 : Int32)))) 19 i 0 ((gI (sI st4 9 0 0 ((gI st4 9 0 0) + ((0 : Int32)))) 19 i 0) - ((1 : Int32)))) 23 i ((gI (sI (sI st4 9 0 0 ((gI st4 9 0 0) + ((0 : Int32)))) 19 i 0 ((gI (sI st4 9 0 0 ((gI st4 9 0 0) + ((0 : Int32)))) 19 i 0) - ((1 : Int32)))) 19 i 0).toNatClampNeg)) else (gI (sI (sI st4 9 0 0 ((gI st4 9 0 0) + ((0 : Int32)))) 19 i 0 ((gI (sI st4 9 0 0 ((gI st4 9 0 0) + ((0 : Int32)))) 19 i 0) - ((1 : Int32)))) 18 i 0)))) fun st13 =>
                ck (ix (gI st13 19 i 0) 4) <|
                KK (sI st13 20 i 0 (gI st13 22 i ((gI st13 19 i 0).toNatClampNeg)))
            else
              if (gI st4 9 0 0) = ((10 : Int32)) then
                some ((99 : Int32), st4)
              else
                if (gI (sI st4 9 0 0 ((gI st4 9 0 0) + ((1 : Int32)))) 19 i 0) = ((0 : Int32)) then
                  some (r3, sI st4 9 0 0 ((gI st4 9 0 0) + ((1 : Int32))))
                else
                  ck (ix (gI (sI (sI st4 9 0 0 ((gI st4 9 0 0) + ((1 : Int32)))) 19 i 0 ((gI (sI st4 9 0 0 ((gI st4 9 0 0) + ((1 : Int32)))) 19 i 0) - ((1 : Int32)))) 19 i 0) 4) <|
                  bV (j_MF_number i r3.toInt64 (sI (sI (sI st4 9 0 0 ((gI st4 9 0 0) + ((1 : Int32)))) 19 i 0 ((gI (sI st4 9 0 0 ((gI st4 9 0 0) + ((1 : Int32)))) 19 i 0) - ((1 : Int32)))) 18 i 0 (if (gI (sI (sI st4 9 0 0 ((gI st4 9 0 0) + ((1 : Int32)))) 19 i 0 ((gI (sI st4 9 0 0 ((gI st4 9 0 0) + ((1 : Int32)))) 19 i 0) - ((1 : Int32)))) 23 i ((gI (sI (sI st4 9 0 0 ((gI st4 9 0 0) + ((1 : Int32)))) 19 i 0 ((gI (sI st4 9 0 0 ((gI st4 9 0 0) + ((1 : Int32)))) 19 i 0) - ((1 : Int32)))) 19 i 0).toNatClampNeg)) < (gI (sI (sI st4 9 0 0 ((gI st4 9 0 0) + ((1 : Int32)))) 19 i 0 ((gI (sI st4 9 0 0 ((gI st4 9 0 0) + ((1 : Int32)))) 19 i 0) - ((1 : Int32)))) 18 i 0) then (gI (sI (sI st4 9 0 0 ((gI st4 9 0 0) + ((1 : Int32)))) 19 i 0 ((gI (sI st4 9 0 0 ((gI st4 9 0 0) + ((1 : Int32)))) 19 i 0) - ((1 : Int32)))) 23 i ((gI (sI (sI st4 9 0 0 ((gI st4 9 0 0) + ((1 : Int32)))) 19 i 0 ((gI (sI st4 9 0 0 ((gI st4 9 0 0) + ((1 : Int32)))) 19 i 0) - ((1 : Int32)))) 19 i 0).toNatClampNeg)) else (gI (sI (sI st4 9 0 0 ((gI st4 9 0 0) + ((1 : Int32)))) 19 i 0 ((gI (sI st4 9 0 0 ((gI st4 9 0 0) + ((1 : Int32)))) 19 i 0) - ((1 : Int32)))) 18 i 0)))) fun st20 =>
                  ck (ix (gI st20 19 i 0) 4) <|
                  KK (sI st20 20 i 0 (gI st20 22 i ((gI st20 19 i 0).toNatClampNeg)))
theorem goes_eq (RAN : Nat → Int64 → CwS → Option (Int32 × CwS)) (f i : Nat) (x2 : Int32) (st : CwS) : j_Mo_goes_L18 RAN (f + 1) i x2 st = if x2 ≤ gI st 20 i 0 then some ((100 : Int32), st) else bR (j_Mo_done RAN i st) fun r3 st4 => gAft (j_Mo_goes_L18 RAN f i x2) i r3 st4 := rfl
def mPop {β : Type} (KK : CwS → Option β) (i : Nat) (v : Int64) (b : CwS) : Option β :=
  ck (ix (gI (sI b 19 i 0 ((gI b 19 i 0) - ((1 : Int32)))) 19 i 0) 4) <|
  bV (j_MF_number i v (sI (sI b 19 i 0 ((gI b 19 i 0) - ((1 : Int32)))) 18 i 0 (if (gI (sI b 19 i 0 ((gI b 19 i 0) - ((1 : Int32)))) 23 i ((gI (sI b 19 i 0 ((gI b 19 i 0) - ((1 : Int32)))) 19 i 0).toNatClampNeg)) < (gI (sI b 19 i 0 ((gI b 19 i 0) - ((1 : Int32)))) 18 i 0) then (gI (sI b 19 i 0 ((gI b 19 i 0) - ((1 : Int32)))) 23 i ((gI (sI b 19 i 0 ((gI b 19 i 0) - ((1 : Int32)))) 19 i 0).toNatClampNeg)) else (gI (sI b 19 i 0 ((gI b 19 i 0) - ((1 : Int32)))) 18 i 0)))) fun st13 =>
  ck (ix (gI st13 19 i 0) 4) <|
  KK (sI st13 20 i 0 (gI st13 22 i ((gI st13 19 i 0).toNatClampNeg)))
theorem kNeg : ∀ k, k < 21 → 0 < k → (¬ -nI k = 100 ∧ ¬ -nI k = 99 ∧ ¬ -nI k = 0 ∧ -nI k ≤ 0 ∧ - -nI k = nI k ∧ ¬ nI k = 100 ∧ ¬ nI k = 99 ∧ ¬ nI k = 0 ∧ ¬ nI k ≤ 0) := by decide
theorem z32_0 : ((0 : Int32)).toNatClampNeg = 0 := rfl
theorem z32_1 : ((1 : Int32)).toNatClampNeg = 1 := rfl
theorem z32_2 : ((2 : Int32)).toNatClampNeg = 2 := rfl
theorem z32_3 : ((3 : Int32)).toNatClampNeg = 3 := rfl
theorem z32_4 : ((4 : Int32)).toNatClampNeg = 4 := rfl
theorem z32_8 : ((8 : Int32)).toNatClampNeg = 8 := rfl
theorem z32_64 : ((64 : Int32)).toNatClampNeg = 64 := rfl
theorem ix5 : ix 0 5 = true ∧ ix 1 5 = true ∧ ix 2 5 = true ∧ ix 3 5 = true ∧ ix 4 5 = true := by decide
variable {a b : CwS} {i base T F S c bb n hn h H : Nat} (RAN : Nat → Int64 → CwS → Option (Int32 × CwS)) {KK : CwS → Option (Int32 × CwS)}
theorem gA_0 : gAft KK i 0 b = KK b := by
  unfold gAft
  simp (decide := true) only [if_true, if_false]
theorem gA_100 : gAft KK i 100 b = some (100, b) := by
  unfold gAft
  simp (decide := true) only [if_true, if_false]
theorem gA_99 : gAft KK i 99 b = some (99, b) := by
  unfold gAft
  simp (decide := true) only [if_true, if_false]
theorem gA_out {k : Nat} (hk : k < 21) (k0 : 0 < k) (e : gI b 9 0 0 = 10) : gAft KK i (nI k) b = some (99, b) := by
  obtain ⟨_, _, _, _, _, n1, n2, n3, n4⟩ := kNeg k hk k0
  unfold gAft
  rw [if_neg n1, if_neg n2, if_neg n3, if_neg n4, if_pos e]
theorem gA_fail {k : Nat} (hk : k < 21) (k0 : 0 < k) (e : gI b 9 0 0 = nI F) (hF : F < 10) : gAft KK i (nI k) b = if gI b 19 i 0 = 0 then some (nI k, sI b 9 0 0 (nI (F + 1))) else mPop KK i (nI k).toInt64 (sI b 9 0 0 (nI (F + 1))) := by
  obtain ⟨_, _, _, _, _, n1, n2, n3, n4⟩ := kNeg k hk k0
  unfold gAft
  rw [if_neg n1, if_neg n2, if_neg n3, if_neg n4, e, if_neg (show ¬ nI F = (10 : Int32) from fun z => by have := (nI_eq (b := 10) (by omega) (by omega)).mp z; omega), nI_1]
  rfl
theorem gA_neg {k : Nat} (hk : k < 21) (k0 : 0 < k) : gAft KK i (-nI k) b = if gI b 19 i 0 = 0 then some (nI k, b) else mPop KK i (nI k).toInt64 b := by
  obtain ⟨m1, m2, m3, m4, m5, _⟩ := kNeg k hk k0
  have e : sI b 9 0 0 (gI b 9 0 0 + 0) = b := by rw [Int32.add_zero, sI_self]
  unfold gAft
  rw [if_neg m1, if_neg m2, if_neg m3, if_pos m4, e, m5]
  rfl
-- the class
theorem c_atEnd (r : Rel a b i base T F S c bb n hn h H) {m : Nat} (hm : m ≤ 24) (e : gI a 2 (6 * c + bb) 0 = nI m) : j_Frame_isAtEnd i a = some (if m ≤ n then 1 else 0, a) := by
  obtain ⟨n1, n2, n3⟩ := r.nx
  have f := r.fr
  have f3 : c < 8 := f.2.2.1
  have f6 : bb < 6 := f.2.2.2.2.2.1
  unfold j_Frame_isAtEnd
  rw [n1, if_neg (nI_pos (by omega)), f.2.2.2.1, ck_t (decide_eq_true (by omega)), e]
  by_cases z : m ≤ n
  · rw [if_neg (nI_nlt z (by omega)), if_pos z]
  · rw [if_pos (nI_lt (by omega) (by omega)), if_neg z]
theorem adv_end (r : Rel a b i base T F S c bb n hn h H) {m : Nat} (hm : m ≤ 24) (e : gI a 2 (6 * c + bb) 0 = nI m) (z : m ≤ n) : j_Walk_advance i a = j_Walk_endWell 0 a := by
  unfold j_Walk_advance
  rw [c_atEnd r hm e, bR_s, if_pos z, if_neg (by decide)]
  cases j_Walk_endWell 0 a <;> rfl
theorem bV_ids (x : Option CwS) : (bV x fun s => some s) = x := by cases x <;> rfl
theorem adv_lim (r : Rel a b i base T F S c bb n hn h H) {m : Nat} (hm : m ≤ 24) (e : gI a 2 (6 * c + bb) 0 = nI m) (z : ¬ m ≤ n) (hS : ¬ T < S) : j_Walk_advance i a = j_Walk_fail 7 a := by
  obtain ⟨d1, _⟩ := r.cnt
  have f := r.fr
  have f10 : T ≤ S := f.2.2.2.2.2.2.2.2.2.1
  have f11 : S ≤ 600 := f.2.2.2.2.2.2.2.2.2.2
  unfold j_Walk_advance
  rw [c_atEnd r hm e, bR_s, if_neg z, if_pos rfl, ck_t ix5.1, z32_0, d1, f.2.2.2.2.2.2.2.1, if_neg (nI_nlt (by omega) (by omega)), bV_ids]
theorem adv_step (r : Rel a b i base T F S c bb n hn h H) {m : Nat} (hm : m ≤ 24) (e : gI a 2 (6 * c + bb) 0 = nI m) (z : ¬ m ≤ n) (hS : T < S) : j_Walk_advance i a = bR (j_Walk_perform i (gI a 0 (6 * c + bb) n) (gI a 1 (6 * c + bb) n) (sI (sI a 7 0 0 (nI (T + 1))) 15 i 0 (nI (n + 1)))) fun r13 st14 => if r13 = 0 then some st14 else j_Walk_fail r13 st14 := by
  obtain ⟨d1, _⟩ := r.cnt
  obtain ⟨n1, n2, n3⟩ := r.nx
  have f := r.fr
  have f3 : c < 8 := f.2.2.1
  have f6 : bb < 6 := f.2.2.2.2.2.1
  have f10 : T ≤ S := f.2.2.2.2.2.2.2.2.2.1
  have f11 : S ≤ 600 := f.2.2.2.2.2.2.2.2.2.2
  have e1 : gI (sI a 7 0 0 (nI (T + 1))) 15 i 0 = nI n := n1
  have e2 : gR (sI (sI a 7 0 0 (nI (T + 1))) 15 i 0 (nI (n + 1))) 0 i = 6 * c + bb := f.2.2.2.1
  unfold j_Walk_advance
  rw [c_atEnd r hm e, bR_s, if_neg z, if_pos rfl, ck_t ix5.1, z32_0, d1, f.2.2.2.2.2.2.2.1, if_pos (nI_lt hS (by omega)), ck_t ix5.1, ck_t ix5.1, nI_1, e1, nI_1, e2, ck_t (decide_eq_true (by omega)), ckn (by omega) (by omega), ck_t (decide_eq_true (by omega)), ckn (by omega) (by omega), nI_clamp (by omega)]
  simp only [bV_ids]
  rfl
theorem done_lim (r : Rel a b i base T F S c bb n hn h H) (hS : ¬ T < S) : j_Mo_done RAN i b = some (7, b) := by
  have f := r.fr
  have f10 : T ≤ S := f.2.2.2.2.2.2.2.2.2.1
  unfold j_Mo_done
  rw [f.2.2.2.2.2.2.2.2.1, if_pos (show nI (S - T) = 0 from by rw [show S - T = 0 by omega]; rfl)]
theorem done_step (r : Rel a b i base T F S c bb n hn h H) (hn24 : n < 24) (hS : T < S) : j_Mo_done RAN i b = mBody RAN i (gI b 0 0 (24 * (6 * c + bb) + n)) (gI b 1 0 (24 * (6 * c + bb) + n)) (sI (sI (sI b 17 i 0 (nI (S - (T + 1)))) 8 0 0 (nI (T + 1))) 20 i 0 (nI (n + 1))) := by
  obtain ⟨d1, d2, _⟩ := r.cnt
  obtain ⟨n1, n2, n3⟩ := r.nx
  have f := r.fr
  have f3 : c < 8 := f.2.2.1
  have f6 : bb < 6 := f.2.2.2.2.2.1
  have f10 : T ≤ S := f.2.2.2.2.2.2.2.2.2.1
  have f11 : S ≤ 600 := f.2.2.2.2.2.2.2.2.2.2
  have e1 : gI (sI b 17 i 0 (nI (S - (T + 1)))) 8 0 0 = nI T := d2
  have e2 : gI (sI (sI b 17 i 0 (nI (S - (T + 1)))) 8 0 0 (nI (T + 1))) 14 i 0 = nI c := f.2.1
  have e3 : gI (sI (sI b 17 i 0 (nI (S - (T + 1)))) 8 0 0 (nI (T + 1))) 16 i 0 = nI bb := f.2.2.2.2.1
  have e4 : gI (sI (sI b 17 i 0 (nI (S - (T + 1)))) 8 0 0 (nI (T + 1))) 20 i 0 = nI n := n2
  unfold j_Mo_done
  rw [f.2.2.2.2.2.2.2.2.1, if_neg (nI_ne0 (by omega) (by omega)), show S - T = (S - (T + 1)) + 1 by omega, nI_pred, e1, nI_1, e2, e3, e4, nI_6m, nI_24m, ckn (by omega) (by omega), ckn (by omega) (by omega), nI_clamp (by omega), nI_1]
  rfl
theorem fail_F (r : Rel a b i base T F S c bb n hn h H) (hF : F < 10) (k : Int32) : j_Walk_fail k a = j_Walk_fail_L38 11 k (nI (i + 1)) (sI a 7 0 1 (nI (F + 1))) := by
  obtain ⟨d1, d2, d3, d4, _⟩ := r.cnt
  unfold j_Walk_fail
  have e : gI (sI a 7 0 1 (nI (F + 1))) 8 0 0 = nI (i + 1) := r.dep.1
  rw [ck_t ix5.2.1, z32_1, d3, if_pos (show nI F < (10 : Int32) from nI_lt (b := 10) hF (by omega)), ck_t ix5.2.1, ck_t ix5.2.1, nI_1, e]
/-- the class is out of failures -/
def cOut (a : CwS) : Option CwS := bV (j_Walk_undoTo 0 a) fun s => some (sI s 9 0 0 (-3))
theorem fail_out (r : Rel a b i base T F S c bb n hn h H) (hF : ¬ F < 10) (k : Int32) : j_Walk_fail k a = cOut a := by
  obtain ⟨d1, d2, d3, d4, d5, _⟩ := r.cnt
  unfold j_Walk_fail cOut
  rw [ck_t ix5.2.1, z32_1, d3, if_neg (show ¬ nI F < (10 : Int32) from nI_nlt (b := 10) (by omega) (by omega))]
theorem Rel.fail (r : Rel a b i base T F S c bb n hn h H) (hF : F < 10) : Rel (sI a 7 0 1 (nI (F + 1))) (sI b 9 0 0 (nI (F + 1))) i base T (F + 1) S c bb n hn h H := by
  obtain ⟨r1, r2, ⟨d1, d2, d3, d4, d5, d6, d7, d8⟩, r4, r5, r6, r7, r8, r9, r10⟩ := r
  exact ⟨r1, r2, ⟨d1, d2, by rw [gI_sI]; simp, by rw [gI_sI]; simp, by omega, d6, d7, d8⟩, r4, r5, r6, r7, r8, r9, r10⟩
theorem Rel.cut (r : Rel a b i base T F S c bb n hn h H) {h0 : Nat} (z : h0 ≤ h) : Rel (sI a 18 i 0 (nI h0)) (sI b 18 i 0 (nI h0)) i base T F S c bb n hn h0 h0 := by
  obtain ⟨r1, r2, r3, r4, r5, r6, r7, r8, ⟨q1, q2, q3, q4⟩, r10⟩ := r
  exact ⟨r1, r2, r3, r4, r5, r6, r7, r8.low (by omega), ⟨gI_18, gI_18, Nat.le_refl _, by omega⟩, r10⟩
/-- the handler takes over -/
theorem pop (r : Rel a b i base T F S c bb n (hn + 1) h H) (k f : Nat) (hk : k < 21) : ∃ a3 b3 n' h', j_Walk_fail_L38 (f + 1) (nI k) (nI (i + 1)) a = some a3 ∧ (∀ {β : Type} (KK : CwS → Option β), mPop KK i (nI k).toInt64 b = KK b3) ∧ Rel a3 b3 i base T F S c bb n' hn h' h' ∧ SameC i a a3 ∧ SameM i base b b3 ∧ gR b3 101 0 = gR b 101 0 ∧ gR b3 101 2 = gR b 101 2 ∧ gR b3 101 3 = gR b 101 3 := by
  have q := r.hi
  obtain ⟨u1, u2, u3, u4⟩ := r.han
  obtain ⟨s, hh, v1, v2, v3, v4, v5, v6⟩ := u4 hn (by omega)
  have i10 : i < 10 := r.hp.1
  obtain ⟨h0, hh0, e0⟩ : ∃ h0, (h0 ≤ h ∧ h0 < 12) ∧ (if nI hh < nI h then nI hh else nI h) = nI h0 := by
    by_cases z : hh < h
    · exact ⟨hh, ⟨by omega, v6⟩, if_pos (nI_lt z (by omega))⟩
    · exact ⟨h, ⟨by omega, by omega⟩, if_neg (nI_nlt (by omega) (by omega))⟩
  have r3 := (((r.drop).cut (h0 := h0) hh0.1).push0 hh0.2 0 (Or.inl rfl) (nI k).toInt64).jump v3
  refine ⟨_, _, _, _, ?_, fun KK => ?_, r3, ?_, ?_, rfl, rfl, rfl⟩
  · unfold j_Walk_fail_L38 j_Frame_handle
    have e1 : gI (sI a 12 i 0 (nI hn)) 12 i 0 = nI hn := by rw [gI_sI]; simp
    have e2 : gI (sI a 12 i 0 (nI hn)) 11 i hn = nI hh := v4
    have e3 : gI (sI a 12 i 0 (nI hn)) 18 i 0 = nI h := q.1
    have e4 : gI (aP (sI (sI a 12 i 0 (nI hn)) 18 i 0 (nI h0)) i h0 0 (nI k).toInt64) 12 i 0 = nI hn := e1
    have e5 : gI (aP (sI (sI a 12 i 0 (nI hn)) 18 i 0 (nI h0)) i h0 0 (nI k).toInt64) 10 i hn = nI s := v1
    rw [if_neg (nI_nle (by omega) (by omega)), nI_pred, ckn i10 (by omega), nI_clamp (by omega), u1, if_pos (show (0 : Int32) < nI (hn + 1) from nI_lt (a := 0) (by omega) (by omega)), nI_pred, e1, ckn (by omega) (by omega), nI_clamp (by omega), e2, e3, e0, q_putNumber gI_18 hh0.2, bR_s, e4, ckn (by omega) (by omega), nI_clamp (by omega), e5, bR_s, if_neg (by decide)]
  · unfold mPop
    have e1 : gI (sI b 19 i 0 (nI hn)) 19 i 0 = nI hn := by rw [gI_sI]; simp
    have e2 : gI (sI b 19 i 0 (nI hn)) 23 i hn = nI hh := v5
    have e3 : gI (sI b 19 i 0 (nI hn)) 18 i 0 = nI h := q.2.1
    have e4 : gI (bP (sI (sI b 19 i 0 (nI hn)) 18 i 0 (nI h0)) i h0 0 (nI k).toInt64 0) 19 i 0 = nI hn := e1
    have e5 : gI (bP (sI (sI b 19 i 0 (nI hn)) 18 i 0 (nI h0)) i h0 0 (nI k).toInt64 0) 22 i hn = nI s := v2
    rw [u2, nI_pred, e1, ckn (by omega) (by omega), nI_clamp (by omega), e2, e3, e0, q_number gI_18 (by omega), bV_s, e4, ckn (by omega) (by omega), nI_clamp (by omega), e5]
  · exact ((((SameC.refl _ _).wI _ (by unfold cOkI; omega)).wI _ (by unfold cOkI; omega)).put).wI _ (by unfold cOkI; omega)
  · exact ((((SameM.refl _ _ _).wI _ (by unfold mOkI; omega)).wI _ (by unfold mOkI; omega)).put).wI _ (by unfold mOkI; omega)
