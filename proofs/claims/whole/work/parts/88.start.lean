-- PURE: the called frame at its start
theorem gI_self (b : CwS) (k j p : Nat) (v : Int32) : gI (sI b k j p v) k j p = v := by rw [gI_sI]; simp
theorem gR_self (b : CwS) (k j v : Nat) : gR (sR b k j v) k j = v := by rw [gR_sR]; simp
theorem FrG.book {a b bG : CwS} {d : Nat} (fg : FrG b bG d) (k : rBook a b) : rBook a bG := by
  refine ⟨fun B hB => ?_, ?_⟩
  · obtain ⟨m, h1, h2, h3, h4⟩ := k.1 B hB
    refine ⟨m, h1, h2, (fg.1 2 0 B (by omega)).trans h3, fun p hp => ⟨(h4 p hp).1.trans (fg.1 0 0 _ (by omega)).symm, (h4 p hp).2.trans (fg.1 1 0 _ (by omega)).symm⟩⟩
  · rw [k.2]; funext p; exact (fg.1 3 0 p (by omega)).symm
theorem FrG.led {a b bG : CwS} {d : Nat} (fg : FrG b bG d) (k : rLed a b) : rLed a bG := by
  obtain ⟨l1, l2, l3, l4, e, l5, l6, l7⟩ := k
  refine ⟨l1.trans (funext fun p => (fg.2.1 0 0 p (by omega)).symm), l2.trans (funext fun p => (fg.2.1 1 0 p (by omega)).symm), l3.trans (funext fun p => (fg.1 5 0 p (by omega)).symm), l4.trans (funext fun p => (fg.2.1 2 0 p (by omega)).symm), e, l5, l6, (fg.1 7 0 0 (by omega)).trans l7⟩
theorem FrG.cnt {a b bG : CwS} {d T F : Nat} (fg : FrG b bG d) (k : rCnt a b T F) : rCnt a bG T F := by
  obtain ⟨d1, d2, d3, d4, d5, d6, d7, d8⟩ := k
  exact ⟨d1, (fg.1 8 0 0 (by omega)).trans d2, d3, (fg.1 9 0 0 (by omega)).trans d4, d5, d6.trans (fg.1 10 0 0 (by omega)).symm, d7.trans (fg.1 11 0 0 (by omega)).symm, d8.trans (fg.1 12 0 0 (by omega)).symm⟩
theorem start {a b bG : CwS} {d T F C B L : Nat} (kb : rBook a b) (kl : rLed a b) (kc : rCnt a b T F) (kd : rDep a b d) (fg : FrG b bG d) (d10 : d < 10) (C8 : C < 8) (B6 : B < 6) (cl : Int32) (hL : T + L ≤ 600) : Rel (aOp a d (6 * C + B) (nI C) cl (nI (T + L))) (bUp (bH (bBeg bG d (nI C) cl (nI B) (nI L)) d) d C) d (gR b 101 2) T F (T + L) C B 0 0 0 0 := by
  have kb' := fg.book kb
  have kl' := fg.led kl
  obtain ⟨d1, d2, d3, d4, d5, d6, d7, d8⟩ := fg.cnt kc
  obtain ⟨g1, g2, g3⟩ := kd
  obtain ⟨q1, q2, q3, q4, q5, q6, q7, q8⟩ := fg
  refine ⟨kb', kl', ⟨d1, d2, d3, d4, d5, ?_, d7, d8⟩, ⟨?_, ?_, fun c hc => ?_⟩, ⟨?_, ?_, C8, ?_, ?_, B6, ?_, ?_, ?_, by omega, hL⟩, ⟨?_, ?_, by omega⟩, ⟨?_, ?_, by omega, fun k hk => by omega⟩, ⟨fun p hp => by omega, fun p q hp => by omega⟩, ⟨?_, ?_, Nat.le_refl _, by omega⟩, d10, q4, q5, by show gR b 101 2 ≤ gR bG 101 2; omega⟩
  · show (if gI a 7 0 2 < nI (d + 1) then nI (d + 1) else gI a 7 0 2) = (if gI bG 10 0 0 < nI (d + 1) then nI (d + 1) else gI bG 10 0 0)
    rw [d6]
  · rfl
  · rfl
  · obtain ⟨u, h1, h2, h3⟩ := g3 c hc
    have e0 : ∀ j, j < d → gI (aOp a d (6 * C + B) (nI C) cl (nI (T + L))) 13 j 0 = gI a 13 j 0 := by
      intro j hj
      show gI (sI (sR (sI (cL (cL a 0 0 0 3 d 0 64) 1 0 0 4 d 0 8) 6 0 d (gI a 5 0 0)) 0 d (6 * C + B)) 13 d 0 (nI C)) 13 j 0 = _
      rw [gI_sI, if_neg (by omega)]
      rfl
    have e1 : gI (aOp a d (6 * C + B) (nI C) cl (nI (T + L))) 13 d 0 = nI C := gI_self _ 13 d 0 _
    have e2 : gI (bUp (bH (bBeg bG d (nI C) cl (nI B) (nI L)) d) d C) 4 0 c = if c = C then gI bG 4 0 C + 1 else gI bG 4 0 c := by
      show gI (sI (sI (bH (bBeg bG d (nI C) cl (nI B) (nI L)) d) 13 0 0 (nI (d + 1))) 4 0 C (gI bG 4 0 C + 1)) 4 0 c = _
      rw [gI_sI]
      simp
      rfl
    rw [e2]
    by_cases z : c = C
    · subst z
      rw [if_pos rfl, q1 4 0 c (by omega), h2, nI_1]
      exact ⟨u + 1, by omega, rfl, fun _ => ⟨d, by omega, e1⟩, fun _ => by omega⟩
    · rw [if_neg z, q1 4 0 c (by omega)]
      refine ⟨u, by omega, h2, fun g => ?_, fun ⟨j, g4, g5⟩ => ?_⟩
      · obtain ⟨j, g4, g5⟩ := h3.mp g
        exact ⟨j, by omega, (e0 j g4).trans g5⟩
      · rcases Nat.lt_or_ge j d with w | w
        · exact h3.mpr ⟨j, w, (e0 j w).symm.trans g5⟩
        · rw [show j = d by omega, e1, nI_eq (by omega) (by omega)] at g5
          exact absurd g5.symm z
  · exact gI_self _ 13 d 0 _
  · exact gI_self _ 14 d 0 _
  · exact gR_self _ 0 d _
  · exact gI_self _ 16 d 0 _
  · exact (gI_self (sR (sI (cL (cL a 0 0 0 3 d 0 64) 1 0 0 4 d 0 8) 6 0 d (gI a 5 0 0)) 0 d (6 * C + B)) 14 d 0 cl).trans (gI_self bG 15 d 0 cl).symm
  · exact gI_self _ 16 d 0 _
  · rw [show T + L - T = L by omega]
    exact gI_self _ 17 d 0 _
  · exact gI_self _ 15 d 0 _
  · exact gI_self _ 20 d 0 _
  · exact gI_self _ 12 d 0 _
  · exact gI_self _ 19 d 0 _
  · exact gI_self _ 18 d 0 _
  · exact gI_self _ 18 d 0 _
/-- a sum goes over -/
theorem Rel.mv {a b : CwS} {i base T F S c bb n hn h H : Nat} (r : Rel a b i base T F S c bb n hn h H) (c0 C0 : Nat) (v : Int64) : Rel (bMv a c0 C0 v) (bMv b c0 C0 v) i base T F S c bb n hn h H := by
  obtain ⟨r1, ⟨l1, l2, l3⟩, r3, r4, r5, r6, r7, r8, r9, r10⟩ := r
  refine ⟨r1, ⟨l1, ?_, l3⟩, r3, r4, r5, r6, r7, r8, r9, r10⟩
  unfold bMv
  rw [cw_updL, cw_updL, cw_updL, cw_updL, l2]
theorem start2 {a b bG : CwS} {d T F C B L c0 : Nat} {v : Int64} (kb : rBook a b) (kl : rLed a b) (kc : rCnt a b T F) (kd : rDep a b d) (fg : FrG b bG d) (d10 : d < 10) (C8 : C < 8) (B6 : B < 6) (cl : Int32) (hL : T + L ≤ 600) : Rel (bMv (aOp a d (6 * C + B) (nI C) cl (nI (T + L))) c0 C v) (bUp (bMv (bH (bBeg bG d (nI C) cl (nI B) (nI L)) d) c0 C v) d C) d (gR b 101 2) T F (T + L) C B 0 0 0 0 := (start kb kl kc kd fg d10 C8 B6 cl hL).mv c0 C v
