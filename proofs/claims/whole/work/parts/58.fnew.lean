/-- a new frame, all its places zero -/
def zF (st : CwS) (K : Nat) : CwS := (fun c i p => if 14 ≤ c ∧ c ≤ 23 ∧ i = K then 0 else st.1 c i p, fun c i p => if 4 ≤ c ∧ c ≤ 7 ∧ i = K then 0 else st.2.1 c i p, fun c i => if c = 50 ∧ i / 16 = K then 0 else st.2.2 c i)
def fNew (st : CwS) : CwS := sR (sR (sR (sR (zF st (gR st 101 0)) 102 (gR st 101 0) (gR st 101 2)) 101 3 (gR st 101 3 + 134)) 101 2 (gR st 101 2 + 8)) 101 0 (gR st 101 0 + 1)
theorem gI_fNew (st : CwS) (c i p : Nat) : gI (fNew st) c i p = if 14 ≤ c ∧ c ≤ 23 ∧ i = gR st 101 0 then 0 else gI st c i p := rfl
theorem gL_fNew (st : CwS) (c i p : Nat) : gL (fNew st) c i p = if 4 ≤ c ∧ c ≤ 7 ∧ i = gR st 101 0 then 0 else gL st c i p := rfl
theorem gR_fNew102 (st : CwS) (i : Nat) : gR (fNew st) 102 i = if i = gR st 101 0 then gR st 101 2 else gR st 102 i := rfl
theorem gR_fNew50 (st : CwS) (i : Nat) : gR (fNew st) 50 i = if i / 16 = gR st 101 0 then 0 else gR st 50 i := by
  show (if 50 = 50 ∧ i / 16 = gR st 101 0 then 0 else st.2.2 50 i) = _
  simp
  rfl
theorem Ext.fnew (st : CwS) : Ext st (fNew st) := by
  refine ⟨?_, ?_, ?_, fun i hi => ?_, fun x _ h => ⟨h, rfl⟩⟩
  · show gR st 101 2 ≤ gR st 101 2 + 8
    omega
  · show gR st 101 3 ≤ gR st 101 3 + 134
    omega
  · show gR st 101 0 ≤ gR st 101 0 + 1
    omega
  · rw [gR_fNew102, if_neg (by omega)]
/-- the world behind a new frame: its eight cells, and its address in the row of frames -/
theorem rf_fnew {D : va_G} {A : Nat → Prop} {b0 : Nat} {cA : Nat → ClassId} {s : State} {st : CwS} {H H1 : Heap} {locs1 : List Loc} (hP : rfP b0 D cA st H) (hD : rfD A b0 st) (hz : H.size = gR st 101 2)
    (hn : ∀ j, j < 8 → va_at D vwCl (gR st 101 2 + j, rfB cA (fNew st) (gR st 101 2) (gR st 101 0) j) H1) (h10 : va_at D vwCl (b0 + 10, rfA b0 cA (fNew st) 10) H1) (oq : ∀ q : Nat, q < H.size → q ≠ b0 + 10 → H1[q]? = H[q]?) (hz1 : H1.size = gR st 101 2 + 8) (hS : va_S A s.heap H1 locs1) : rfO D A b0 cA s (fNew st) H1 locs1 := by
  obtain ⟨hP1, hP2, hP3⟩ := hP
  have e0 : gR (fNew st) 101 0 = gR st 101 0 + 1 := rfl
  have e2 : gR (fNew st) 101 2 = gR st 101 2 + 8 := rfl
  have e3 : ∀ a, gR (fNew st) 103 a = gR st 103 a := fun a => rfl
  have hb : b0 + 10 < gR st 101 2 := by rw [← hz]; exact (hP1 10 (by decide)).lt
  have old : ∀ (q : Nat × va_E), va_at D vwCl q H → q.1 ≠ b0 + 10 → va_at D vwCl q H1 := fun q h hne => h.kept (oq q.1 h.lt hne)
  have hlt : ∀ i, i < gR st 101 0 → gR st 102 i + 7 < gR st 101 2 := fun i hi => by rw [← hz]; exact (hP2 i 7 hi (by decide)).lt
  have hrl : ∀ a, gR st 103 a = 1 → a < gR st 101 2 := fun a ha => by rw [← hz]; exact (hP3 a ha).lt
  refine ⟨⟨fun k hk => ?_, fun i j hi hj => ?_, fun a ha => ?_⟩, ⟨?_, ?_, ?_, ?_, ?_, ?_, ?_, ?_⟩, hS, by rw [hz1, e2]⟩
  · by_cases h : k = 10
    · subst h; exact h10
    · have key : va_at D vwCl (b0 + k, rfA b0 cA st k) H1 := old _ (hP1 k hk) (by simp only; omega)
      match k, hk, h, key with
      | 0, _, _, key => exact key
      | 1, _, _, key => exact key
      | 2, _, _, key => exact key
      | 3, _, _, key => exact key
      | 4, _, _, key => exact key
      | 5, _, _, key => exact key
      | 6, _, _, key => exact key
      | 7, _, _, key => exact key
      | 8, _, _, key => exact key
      | 9, _, _, key => exact key
      | 10, _, h, _ => exact absurd rfl h
      | k + 11, hk, _, _ => omega
  · rw [e0] at hi
    by_cases h : i = gR st 101 0
    · subst h
      rw [gR_fNew102, if_pos rfl]
      exact hn j hj
    · have hi' : i < gR st 101 0 := by omega
      have hl := hD.1 i hi'
      rw [gR_fNew102, if_neg h, rfB_congr (st := st) (st2 := fNew st) j (fun c q _ => by rw [gI_fNew, if_neg (by omega)]) (fun c q _ => by rw [gL_fNew, if_neg (by omega)]) (fun _ p hp => by rw [gR_fNew50, if_neg (by omega)])]
      exact old _ (hP2 i j hi' hj) (by simp only; omega)
  · rw [e3] at ha
    have := hD.2.2.1 a ha
    exact old _ (hP3 a ha) (by simp only; omega)
  · intro i hi
    rw [gR_fNew102]
    split
    · omega
    · exact hD.1 i (by omega)
  · intro i j hij hj
    rw [e0] at hj
    rw [gR_fNew102, gR_fNew102, if_neg (show ¬ i = gR st 101 0 by omega)]
    split
    · have := hlt i (by omega)
      omega
    · exact hD.2.1 i j hij (by omega)
  · intro a ha
    exact hD.2.2.1 a ha
  · intro a i ha hi
    rw [e0] at hi
    rw [gR_fNew102]
    split
    · have := hrl a ha
      omega
    · exact hD.2.2.2.1 a i ha (by omega)
  · exact hD.2.2.2.2.1
  · intro i j hi hj
    rw [e0] at hi
    rw [gR_fNew102]
    split
    · exact hD.2.2.2.2.2.2.2 _ (by omega)
    · exact hD.2.2.2.2.2.1 i j (by omega) hj
  · intro a ha
    exact hD.2.2.2.2.2.2.1 a ha
  · intro q hq
    exact hD.2.2.2.2.2.2.2 q (by omega)
