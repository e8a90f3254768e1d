-- PURE: code 23
variable {a b : CwS} {i base T F S c bb n hn h H : Nat}
theorem cL_0 (st : CwS) (c i p c2 i2 p2 : Nat) : cL st c i p c2 i2 p2 0 = st := by
  refine Prod.ext rfl (Prod.ext ?_ rfl)
  funext c' i' p'
  show gL (cL st c i p c2 i2 p2 0) c' i' p' = gL st c' i' p'
  rw [gL_cL, if_neg (by omega)]
theorem cL_s (st : CwS) (c i p c2 i2 p2 k : Nat) (ne : ¬ (c = c2 ∧ i = i2)) : sL (cL st c i p c2 i2 p2 k) c2 i2 (p2 + k) (gL (cL st c i p c2 i2 p2 k) c i (p + k)) = cL st c i p c2 i2 p2 (k + 1) := by
  refine Prod.ext rfl (Prod.ext ?_ rfl)
  funext c' i' p'
  show gL (sL (cL st c i p c2 i2 p2 k) c2 i2 (p2 + k) (gL (cL st c i p c2 i2 p2 k) c i (p + k))) c' i' p' = gL (cL st c i p c2 i2 p2 (k + 1)) c' i' p'
  rw [gL_sL, gL_cL, gL_cL, gL_cL]
  rw [if_neg (show ¬ (c = c2 ∧ i = i2 ∧ p2 ≤ p + k ∧ p + k < p2 + k) from fun g => ne ⟨g.1, g.2.1⟩)]
  by_cases z : c' = c2 ∧ i' = i2 ∧ p' = p2 + k
  · rw [if_pos z, if_pos (by omega), z.2.2, Nat.add_sub_cancel_left]
  · rw [if_neg z]
    by_cases g : c' = c2 ∧ i' = i2 ∧ p2 ≤ p' ∧ p' < p2 + k
    · rw [if_pos g, if_pos (by omega)]
    · rw [if_neg g, if_neg (by omega)]
theorem isRow_cL (st : CwS) (c i p c2 i2 p2 n r : Nat) : isRow (cL st c i p c2 i2 p2 n) r = isRow st r := rfl
/-- the second loop: out of the new row -/
theorem q_238 {st : CwS} {x0 : Nat} {x1 : Int32} {x2 : Int64} {x8 J N αt αb : Nat} (ht : isRow st (αt + 1) = true) (hb : isRow st (αb + 1) = true) (lt : N ≤ gR st 100 αt) (lb : J + N ≤ gR st 100 αb) (hN : N ≤ 16) (hJ : J ≤ 16) (ne : αt ≠ αb) : ∀ (f k : Nat), k + f = 18 → k ≤ N → j_Mo_copied_L238 f x0 x1 x2 (lN J) (lN N) x8 (αb + 1) (αt + 1) (nI k) (cL st 9 αt 0 9 αb J k) = some (0, cL st 9 αt 0 9 αb J N)
  | 0, k, h1, h2 => by omega
  | f + 1, k, h1, h2 => by
    unfold j_Mo_copied_L238
    rw [nI_l (by omega)]
    by_cases z : k = N
    · subst z
      rw [if_pos ((q_cmp_ge (by omega) (by omega)).mpr (Nat.le_refl _))]
    · rw [if_neg (fun g => by have := (q_cmp_ge (by omega) (by omega)).mp g; omega), isRow_cL, isRow_cL, ck_t ht, Nat.add_sub_cancel, Nat.add_sub_cancel]
      have g1 : gR (cL st 9 αt 0 9 αb J k) 100 αt = gR st 100 αt := rfl
      have g2 : gR (cL st 9 αt 0 9 αb J k) 100 αb = gR st 100 αb := rfl
      rw [g1, g2, ckn (by omega) (by omega), ck_t hb, lN_i, nI_add, ckn (by omega) (by omega), nI_clamp (by omega), nI_clamp (by omega), nI_1]
      have e := cL_s st 9 αt 0 9 αb J k (fun g => ne g.2)
      rw [Nat.zero_add] at e
      rw [e]
      exact q_238 ht hb lt lb hN hJ ne f (k + 1) (by omega) (by omega)
/-- the first: into the new row -/
theorem q_207 {st : CwS} {x0 : Nat} {x1 : Int32} {I J N αa αt αb : Nat} (ha : isRow st (αa + 1) = true) (ht : isRow st (αt + 1) = true) (hb : isRow st (αb + 1) = true) (lt : N ≤ gR st 100 αt) (la : I + N ≤ gR st 100 αa) (lb : J + N ≤ gR st 100 αb) (hN : N ≤ 16) (hI : I ≤ 16) (hJ : J ≤ 16) (ne : αt ≠ αb) (ne2 : αt ≠ αa) : ∀ (f k : Nat), k + f = 18 → k ≤ N → j_Mo_copied_L207 f x0 x1 (lN I) (lN J) (lN N) (αa + 1) (αb + 1) (αt + 1) (nI k) (cL st 9 αa I 9 αt 0 k) = some (0, cL (cL st 9 αa I 9 αt 0 N) 9 αt 0 9 αb J N)
  | 0, k, h1, h2 => by omega
  | f + 1, k, h1, h2 => by
    unfold j_Mo_copied_L207
    rw [nI_l (by omega)]
    by_cases z : k = N
    · subst z
      rw [if_pos ((q_cmp_ge (by omega) (by omega)).mpr (Nat.le_refl _))]
      have e := q_238 (st := cL st 9 αa I 9 αt 0 k) (x0 := x0) (x1 := x1) (x2 := lN I) (x8 := αa + 1) (J := J) (N := k) (αt := αt) (αb := αb) ht hb lt lb hN hJ ne 18 0 rfl (Nat.zero_le _)
      rw [cL_0] at e
      exact e
    · rw [if_neg (fun g => by have := (q_cmp_ge (by omega) (by omega)).mp g; omega), isRow_cL, isRow_cL, ck_t ha, Nat.add_sub_cancel, Nat.add_sub_cancel]
      have g1 : gR (cL st 9 αa I 9 αt 0 k) 100 αt = gR st 100 αt := rfl
      have g2 : gR (cL st 9 αa I 9 αt 0 k) 100 αa = gR st 100 αa := rfl
      rw [g1, g2, lN_i, nI_add, ckn (by omega) (by omega), ck_t ht, ckn (by omega) (by omega), nI_clamp (by omega), nI_clamp (by omega), nI_1]
      have e := cL_s st 9 αa I 9 αt 0 k (fun g => ne2 g.2.symm)
      rw [Nat.zero_add] at e
      rw [e]
      exact q_207 ha ht hb lt la lb hN hI hJ ne ne2 f (k + 1) (by omega) (by omega)
/-- n elements of one row go to another -/
theorem Rel.copy (r : Rel a b i base T F S c bb n hn h H) {ρa αa la ρb αb lb I J N pa pb : Nat} (hpa : pa < H) (hpb : pb < H) (hka : gI a 17 i pa = 1 ∨ gI a 17 i pa = 2) (hkb : gI a 17 i pb = 1 ∨ gI a 17 i pb = 2) (a1 : ρa < 12) (a2 : gL a 6 i pa = lN ρa) (a3 : gR b 50 (16 * i + pa) = αa + 1) (a5 : αa < gR b 101 2) (a8 : la ≤ 16) (a10 : ∀ k, k < la → gL a 7 i (16 * ρa + k) = gL b 9 αa k) (b1 : ρb < 12) (b2 : gL a 6 i pb = lN ρb) (b3 : gR b 50 (16 * i + pb) = αb + 1) (b5 : αb < gR b 101 2) (b8 : lb ≤ 16) (hI : I + N ≤ la) (hJ : J + N ≤ lb) : Rel (cL a 7 i (16 * ρa + I) 7 i (16 * ρb + J) N) (cL (cL (rNew b N) 9 αa I 9 (gR b 101 2) 0 N) 9 (gR b 101 2) 0 9 αb J N) i base T F S c bb n hn h h := by
  obtain ⟨r1, r2, r3, r4, r5, r6, r7, r8, r9, r10⟩ := r.low
  have hh := r.hi.2.2.1
  refine ⟨r1, r2, r3, r4, r5, r6, r7, ⟨fun p hp2 => ⟨(r8.1 p hp2).1, (r8.1 p hp2).2.tr fun k0 ρ' α' m' g1 g2 g3 g4 g5 g6 g7 g8 g9 g10 => ⟨g4, Nat.lt_succ_of_lt g5, ?_, ?_, g9, fun j hj => ?_⟩⟩, r8.2⟩, r9, r10.1, r10.2.1, r10.2.2.1, Nat.le_trans r10.2.2.2 (Nat.le_succ _)⟩
  · show gR (rNew b N) 103 α' = 1
    rw [rNew_103, if_neg (by omega)]; exact g6
  · show gR (rNew b N) 100 α' = m'
    rw [rNew_100, if_neg (by omega)]; exact g7
  · have al := r.pile.2 pb p hpb (by omega) hkb k0
    rw [b2, b3, g2, g3, lN_eq (by omega) (by omega)] at al
    rw [gL_cL, gL_cL]
    by_cases z : ρb = ρ'
    · have z2 : αb = α' := by have := al.mp z; omega
      subst z z2
      by_cases z3 : J ≤ j ∧ j < J + N
      · rw [if_pos (by omega), if_pos (by omega), gL_cL, if_pos (by omega), rNew_9, if_neg (by omega)]
        have e1 : 16 * ρa + I + (16 * ρb + j - (16 * ρb + J)) = 16 * ρa + (I + (j - J)) := by omega
        have e2 : I + (0 + (j - J) - 0) = I + (j - J) := by omega
        rw [e1, e2]
        exact a10 _ (by omega)
      · rw [if_neg (by omega), if_neg (by omega), gL_cL, if_neg (by omega), rNew_9, if_neg (by omega)]
        exact g10 j hj
    · have z2 : ¬ α' = αb := fun g => z (al.mpr (by omega))
      rw [if_neg (by omega), if_neg (by omega), gL_cL, if_neg (by omega), rNew_9, if_neg (by omega)]
      exact g10 j hj
