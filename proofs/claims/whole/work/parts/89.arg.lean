-- PURE: the argument of a call
def cArg (i d : Nat) (st29 : CwS) : Option (Int32 × CwS) :=
        bR (j_Pile_tookKind i ((0 : Int32)) st29) fun r31 st32 =>
        if r31 = ((1 : Int32)) then
          bR (j_Pile_took i ((0 : Int32)) st32) fun r35 st36 =>
          bR (j_Rows_putCopy d r31 i r35 st36) fun r38 st39 =>
          some (r38, st39)
        else
          if r31 = ((2 : Int32)) then
            bR (j_Pile_took i ((0 : Int32)) st32) fun r48 st49 =>
            bR (j_Rows_putCopy d r31 i r48 st49) fun r51 st52 =>
            some (r51, st52)
          else
            bR (j_Pile_took i ((0 : Int32)) st32) fun r42 st43 =>
            bR (j_Pile_put d r31 r42 st43) fun r45 st46 =>
            some (r45, st46)
def mRet (i d : Nat) (t39 : Int32) (r41 : Int32) (st42 : CwS) : Option (Int32 × CwS) :=
  if r41 = ((100 : Int32)) then
    bV (j_MF_number i (gL (sI st42 17 i 0 ((gI st42 17 i 0) - ((gI st42 8 0 0) - t39))) 4 d 0) (sI st42 17 i 0 ((gI st42 17 i 0) - ((gI st42 8 0 0) - t39)))) fun st47 =>
    some ((0 : Int32), st47)
  else
    if r41 = ((99 : Int32)) then
      some ((99 : Int32), sI st42 17 i 0 ((gI st42 17 i 0) - ((gI st42 8 0 0) - t39)))
    else
      some (-r41, sI st42 17 i 0 ((gI st42 17 i 0) - ((gI st42 8 0 0) - t39)))
theorem q_L244 (RAN : Nat → Int64 → CwS → Option (Int32 × CwS)) {b : CwS} {i d h x12 : Nat} {v : Int64} (h13 : h + 2 < 13) (hd : gI b 18 d 0 = nI 0) (hx : x12 = 0 ∨ isRow b x12 = true) : j_Mo_calls_L244 RAN i (nI h) v d x12 b = bR (RAN d v (bP b d 0 (gI b 21 i (h + 2)) (gL b 7 i (h + 2)) x12)) fun r41 st42 => mRet i d (gI b 8 0 0) r41 st42 := by
  unfold j_Mo_calls_L244
  rw [nI_p2, ckn h13 (by omega), ckn h13 (by omega), nI_clamp (by omega), q_push hd (by omega) hx, bV_s]
  rfl
theorem FrG.same {b bG : CwS} {d i : Nat} (fg : FrG b bG d) (hi : i < d) : SameY d i (gR b 101 2) b bG := by
  obtain ⟨q1, q2, q3, q4, q5, q6, q7, q8⟩ := fg
  refine ⟨fun k j p q => q1 k j p ?_, fun k j p q => ?_, fun k j q => ?_, q6, by omega⟩
  · unfold mOkI at q; omega
  · unfold mOkL at q
    exact q2 k j p (by omega)
  · unfold mOkR at q
    exact q3 k j (by omega) (by omega) (by omega)
section
variable {a b bG : CwS} {i base T F S c bb n hn h C B L : Nat} {v : Int64} (RAN : Nat → Int64 → CwS → Option (Int32 × CwS))
/-- the caller's frame is where it was -/
theorem aOp_same {d B : Nat} {C cl st : Int32} (hi : i < d) : SameX d i a (aOp a d B C cl st) := by
  unfold aOp
  exact (((((((((((((SameX.refl d i a).wC (by unfold cOkL; omega)).wC (by unfold cOkL; omega)).wI _ (by unfold cOkI; omega)).wR _ (by omega)).wI _ (by unfold cOkI; omega)).wI _ (by unfold cOkI; omega)).wI _ (by unfold cOkI; omega)).wI _ (by unfold cOkI; omega)).wI _ (by unfold cOkI; omega)).wI _ (by unfold cOkI; omega)).wI _ (by unfold cOkI; omega)).wI _ (by unfold cOkI; omega))
theorem SameX.mv {d g : Nat} {a a' : CwS} (s : SameX d g a a') (c C : Nat) (v : Int64) : SameX d g a (bMv a' c C v) := (s.wL _ (by unfold cOkL; omega)).wL _ (by unfold cOkL; omega)
theorem bBeg_same {d base : Nat} {b b' : CwS} (s : SameY d i base b b') (hi : i < d) (C cl B lim : Int32) : SameY d i base b (bBeg b' d C cl B lim) := by
  unfold bBeg
  exact (((((((s.wI _ (by unfold mOkI; omega)).wI _ (by unfold mOkI; omega)).wI _ (by unfold mOkI; omega)).wI _ (by unfold mOkI; omega)).wI _ (by unfold mOkI; omega)).wI _ (by unfold mOkI; omega)).wI _ (by unfold mOkI; omega)).wL _ (by unfold mOkL; omega)
/-- what is known of the states when the called frame's loop begins -/
def ArgOK (a b : CwS) (i T F L c C B : Nat) (v : Int64) (aC b39 : CwS) : Prop :=
  Rel aC (bUp (bMv (bH b39 (i + 1)) c C v) (i + 1) C) (i + 1) (gR b 101 2) T F (T + L) C B 0 0 1 1 ∧ SameX (i + 1) i a aC ∧ SameY (i + 1) i (gR b 101 2) b b39 ∧ (gI b39 13 0 0 = nI (i + 1) ∧ gI b39 14 (i + 1) 0 = nI C ∧ gI b39 15 (i + 1) 0 = nI c ∧ gI b39 7 0 0 = gI b 7 0 0 ∧ gI b39 8 0 0 = nI T ∧ gL b39 4 (i + 1) 0 = 0) ∧ (gL b39 0 0 = gL b 0 0 ∧ gL b39 1 0 = gL b 1 0) ∧ (gR b39 101 2 + 8 * gR b 101 0 ≤ gR b 101 2 + 1 + 8 * gR b39 101 0 ∧ gR b39 101 3 + 134 * gR b 101 0 ≤ gR b 101 3 + 16 + 134 * gR b39 101 0) ∧ ((∀ k, k < 64 → gL aC 3 (i + 1) k = gL a 0 0 k) ∧ (∀ k, k < 8 → gL aC 4 (i + 1) k = gL a 1 0 k) ∧ gI aC 6 0 (i + 1) = gI a 5 0 0)
theorem keep3 {d B : Nat} {C cl st : Int32} : (∀ k, k < 64 → gL (aOp a d B C cl st) 3 d k = gL a 0 0 k) ∧ (∀ k, k < 8 → gL (aOp a d B C cl st) 4 d k = gL a 1 0 k) ∧ gI (aOp a d B C cl st) 6 0 d = gI a 5 0 0 := by
  refine ⟨fun k hk => ?_, fun k hk => ?_, ?_⟩
  · show gL (cL a 0 0 0 3 d 0 64) 3 d k = _
    rw [gL_cL, if_pos (by omega), Nat.sub_zero, Nat.zero_add]
  · show gL (cL (cL a 0 0 0 3 d 0 64) 1 0 0 4 d 0 8) 4 d k = _
    rw [gL_cL, if_pos (by omega), Nat.sub_zero, Nat.zero_add]
    rfl
  · exact gI_self (cL (cL a 0 0 0 3 d 0 64) 1 0 0 4 d 0 8) 6 0 d (gI a 5 0 0)
theorem arg_num (r : Rel a b i base T F S c bb n hn h (h + 3)) (fg : FrG b bG (i + 1)) (i9 : i + 1 < 10) (C8 : C < 8) (B6 : B < 6) (hL : T + L ≤ 600) {kd : Int32} {w : Int64} (hk : kd = 0 ∨ kd = 3) : ArgOK a b i T F L c C B v (aP (bMv (aOp a (i + 1) (6 * C + B) (nI C) (nI c) (nI (T + L))) c C v) (i + 1) 0 kd w) (bP (bBeg bG (i + 1) (nI C) (nI c) (nI B) (nI L)) (i + 1) 0 kd w 0) := by
  have st := start2 (v := v) (c0 := c) r.book r.led r.cnt r.dep fg i9 C8 B6 (nI c) hL
  obtain ⟨q1, q2, q3, q4, q5, q6, q7, q8⟩ := fg
  refine ⟨(st.push (by omega) (Or.inl ⟨hk, rfl, rfl⟩) fun q hq => by omega), ((aOp_same (by omega)).mv c C v).put, (bBeg_same (FrG.same ⟨q1, q2, q3, q4, q5, q6, q7, q8⟩ (by omega)) (by omega) _ _ _ _).put, ⟨?_, ?_, ?_, ?_, ?_, ?_⟩, ⟨?_, ?_⟩, ⟨?_, ?_⟩, keep3 (B := 6 * C + B) (C := nI C) (cl := nI c) (st := nI (T + L))⟩
  · exact (q1 13 0 0 (by omega)).trans r.dep.2.1
  · exact gI_self bG 14 (i + 1) 0 _
  · exact gI_self _ 15 (i + 1) 0 _
  · exact q1 7 0 0 (by omega)
  · exact (q1 8 0 0 (by omega)).trans r.cnt.2.1
  · show gL (sL bG 4 (i + 1) 0 0) 4 (i + 1) 0 = 0
    rw [gL_sL]; simp
  · exact funext fun p => q2 0 0 p (by omega)
  · exact funext fun p => q2 1 0 p (by omega)
  · show gR bG 101 2 + 8 * gR b 101 0 ≤ gR b 101 2 + 1 + 8 * gR bG 101 0
    omega
  · show gR bG 101 3 + 134 * gR b 101 0 ≤ gR b 101 3 + 16 + 134 * gR bG 101 0
    omega
theorem arg_row (r : Rel a b i base T F S c bb n hn h (h + 3)) (fg : FrG b bG (i + 1)) (i9 : i + 1 < 10) (C8 : C < 8) (B6 : B < 6) (hL : T + L ≤ 600) {kd : Int32} {w : Int64} {ρ ρ' α m : Nat} (hk : kd = 1 ∨ kd = 2) (h1 : ρ < 12) (h1' : ρ' < 12) (h5 : α < gR b 101 2) (h8 : m ≤ 16) (h10 : ∀ k, k < m → gL a 7 i (16 * ρ + k) = gL b 9 α k) : ArgOK a b i T F L c C B v (aP (cL (sI (bMv (aOp a (i + 1) (6 * C + B) (nI C) (nI c) (nI (T + L))) c C v) 20 (i + 1) ρ' (nI m)) 7 i (16 * ρ) 7 (i + 1) (16 * ρ') m) (i + 1) 0 kd (lN ρ')) (bP (cL (rNew (bBeg bG (i + 1) (nI C) (nI c) (nI B) (nI L)) m) 9 α 0 9 (gR bG 101 2) 0 m) (i + 1) 0 kd w (gR bG 101 2 + 1)) := by
  have st := start2 (v := v) (c0 := c) r.book r.led r.cnt r.dep fg i9 C8 B6 (nI c) hL
  have fs : SameY (i + 1) i (gR b 101 2) b bG := fg.same (by omega)
  obtain ⟨q1, q2, q3, q4, q5, q6, q7, q8⟩ := fg
  have hb : gR b 101 2 ≤ gR bG 101 2 := by omega
  refine ⟨?_, ((((aOp_same (by omega)).mv c C v).wI _ (by unfold cOkI; omega)).wC (by unfold cOkL; omega)).put, ((((bBeg_same fs (by omega) _ _ _ _).new m hb).wC (by unfold mOkL; omega)).put), ⟨?_, ?_, ?_, ?_, ?_, ?_⟩, ⟨?_, ?_⟩, ⟨?_, ?_⟩, keep3 (B := 6 * C + B) (C := nI C) (cl := nI c) (st := nI (T + L))⟩
  · obtain ⟨r1, r2, r3, r4, r5, r6, r7, r8, ⟨u1, u2, u3, u4⟩, ⟨w1, w2, w3, w4⟩⟩ := st
    refine ⟨r1, r2, r3, r4, r5, r6, r7, ⟨fun p hp => ?_, fun p q hp hq => ?_⟩, ⟨aP_h, bP_h, Nat.le_refl _, by omega⟩, ⟨w1, w2, w3, by show gR b 101 2 ≤ gR bG 101 2 + 1; omega⟩⟩
    · have ep : p = 0 := by omega
      subst ep
      rw [aP_k, aP_n, if_pos rfl, if_pos rfl]
      refine ⟨?_, Or.inr ⟨hk, ρ', gR bG 101 2, m, h1', rfl, ?_, hb, Nat.lt_succ_self _, ?_, ?_, h8, ?_, fun k hk => ?_⟩⟩
      · exact gI_self _ 21 (i + 1) 0 kd
      · exact gR_self _ 50 (16 * (i + 1) + 0) _
      · show gR (rNew (bBeg bG (i + 1) (nI C) (nI c) (nI B) (nI L)) m) 103 (gR bG 101 2) = 1
        rw [rNew_103]; exact if_pos rfl
      · show gR (rNew (bBeg bG (i + 1) (nI C) (nI c) (nI B) (nI L)) m) 100 (gR bG 101 2) = m
        rw [rNew_100]; exact if_pos rfl
      · exact gI_self _ 20 (i + 1) ρ' (nI m)
      · show gL (cL (sI (bMv (aOp a (i + 1) (6 * C + B) (nI C) (nI c) (nI (T + L))) c C v) 20 (i + 1) ρ' (nI m)) 7 i (16 * ρ) 7 (i + 1) (16 * ρ') m) 7 (i + 1) (16 * ρ' + k) = gL (cL (rNew (bBeg bG (i + 1) (nI C) (nI c) (nI B) (nI L)) m) 9 α 0 9 (gR bG 101 2) 0 m) 9 (gR bG 101 2) k
        rw [gL_cL, if_pos (by omega), gL_cL, if_pos (by omega), rNew_9, if_neg (show ¬ α = gR (bBeg bG (i + 1) (nI C) (nI c) (nI B) (nI L)) 101 2 from by show ¬ α = gR bG 101 2; omega), show 16 * ρ + (16 * ρ' + k - 16 * ρ') = 16 * ρ + k by omega, show 0 + (k - 0) = k by omega]
        exact (h10 k hk).trans (q2 9 α k (by omega)).symm
    · have ep : p = 0 := by omega
      have eq : q = 0 := by omega
      subst ep eq
      exact fun _ _ => ⟨fun _ => rfl, fun _ => rfl⟩
  · exact (q1 13 0 0 (by omega)).trans r.dep.2.1
  · exact gI_self bG 14 (i + 1) 0 _
  · exact gI_self _ 15 (i + 1) 0 _
  · exact q1 7 0 0 (by omega)
  · exact (q1 8 0 0 (by omega)).trans r.cnt.2.1
  · show gL (sL bG 4 (i + 1) 0 0) 4 (i + 1) 0 = 0
    rw [gL_sL]; simp
  · exact funext fun p => q2 0 0 p (by omega)
  · exact funext fun p => q2 1 0 p (by omega)
  · show gR bG 101 2 + 1 + 8 * gR b 101 0 ≤ gR b 101 2 + 1 + 8 * gR bG 101 0
    omega
  · show gR bG 101 3 + m + 134 * gR b 101 0 ≤ gR b 101 3 + 16 + 134 * gR bG 101 0
    omega
end
