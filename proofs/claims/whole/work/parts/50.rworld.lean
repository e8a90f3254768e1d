-- the reference's cells: eleven fixed ones at b0 .. b0 + 10, eight for each frame from gR st 102 i on, a row of longs at each address a with gR st 103 a = 1
-- gR: 50 (16 i + p) entry p of frame i's rows (0 null, a + 1 the row at a); 100 a a row's length; 101 0 frames made, 101 2 the heap's size, 101 3 slots made; 102 i a frame's address; 103 a 'a is a row'
def rq (r : Nat) : Value := match r with
  | 0 => .null
  | a + 1 => .ref a
def rqo (r : Nat) : Option Nat := match r with
  | 0 => none
  | a + 1 => some a
theorem rq_rf (r : Nat) : va_rf (rqo r) = rq r := by cases r <;> rfl
def zL (st : CwS) (c i : Nat) : CwS := (st.1, fun c' i' p' => if c' = c then (if i' = i then 0 else st.2.1 c' i' p') else st.2.1 c' i' p', st.2.2)
theorem gL_zL (st : CwS) (c i c' i' p' : Nat) : gL (zL st c i) c' i' p' = if c' = c ∧ i' = i then 0 else gL st c' i' p' := by
  by_cases h1 : c' = c <;> by_cases h2 : i' = i <;> simp [gL, zL, h1, h2]
/-- a new row of n longs -/
def rNew (st : CwS) (n : Nat) : CwS := sR (sR (sR (sR (zL st 9 (gR st 101 2)) 100 (gR st 101 2) n) 103 (gR st 101 2) 1) 101 3 (gR st 101 3 + n)) 101 2 (gR st 101 2 + 1)
def isRow (st : CwS) (r : Nat) : Bool := decide (0 < r ∧ gR st 103 (r - 1) = 1)
def rfTy (cA : Nat → ClassId) : List (ClassId × FieldType) := cwTy cA ++ [(cA 6, .object "CallWalkerModel$Frame")]
def rfA (b0 : Nat) (cA : Nat → ClassId) (st : CwS) (k : Nat) : va_E := match k with
  | 0 => .inr (9, [.int (gI st 6 0 0), .ref (b0 + 1), .ref (b0 + 2), .ref (b0 + 3), .ref (b0 + 4), .ref (b0 + 5), .ref (b0 + 6), .ref (b0 + 7), .ref (b0 + 8), .ref (b0 + 9), .int (gI st 7 0 0), .long (gL st 3 0 0), .int (gI st 8 0 0), .int (gI st 9 0 0), .int (gI st 10 0 0), .int (gI st 11 0 0), .int (gI st 12 0 0), .int (gI st 13 0 0), .ref (b0 + 10)])
  | 1 => .inl (cA 0, 1152, .inl (gI st 0 0))
  | 2 => .inl (cA 0, 1152, .inl (gI st 1 0))
  | 3 => .inl (cA 0, 48, .inl (gI st 2 0))
  | 4 => .inl (cA 2, 8, .inl (gI st 3 0))
  | 5 => .inl (cA 1, 64, .inr (.inl (gL st 0 0)))
  | 6 => .inl (cA 1, 8, .inr (.inl (gL st 1 0)))
  | 7 => .inl (cA 0, 8, .inl (gI st 4 0))
  | 8 => .inl (cA 0, 40, .inl (gI st 5 0))
  | 9 => .inl (cA 1, 40, .inr (.inl (gL st 2 0)))
  | 10 => .inl (cA 6, 11, .inr (.inr (.inr (.inr (fun j => if j < gR st 101 0 then some (gR st 102 j) else none)))))
  | _ => .inr (0, [])
def rfB (cA : Nat → ClassId) (st : CwS) (fa i j : Nat) : va_E := match j with
  | 0 => .inr (8, [.int (gI st 14 i 0), .int (gI st 15 i 0), .int (gI st 16 i 0), .int (gI st 17 i 0), .ref (fa + 1), .ref (fa + 2), .ref (fa + 3), .ref (fa + 4), .ref (fa + 5), .int (gI st 18 i 0), .ref (fa + 6), .ref (fa + 7), .int (gI st 19 i 0), .int (gI st 20 i 0), .long (gL st 4 i 0)])
  | 1 => .inl (cA 1, 64, .inr (.inl (gL st 5 i)))
  | 2 => .inl (cA 1, 8, .inr (.inl (gL st 6 i)))
  | 3 => .inl (cA 0, 13, .inl (gI st 21 i))
  | 4 => .inl (cA 1, 13, .inr (.inl (gL st 7 i)))
  | 5 => .inl (cA 5, 13, .inr (.inr (.inr (.inr (fun p => if p < 13 then rqo (gR st 50 (16 * i + p)) else none)))))
  | 6 => .inl (cA 0, 4, .inl (gI st 22 i))
  | 7 => .inl (cA 0, 4, .inl (gI st 23 i))
  | _ => .inr (0, [])
def rfR (cA : Nat → ClassId) (st : CwS) (a : Nat) : va_E := .inl (cA 1, gR st 100 a, .inr (.inl (gL st 9 a)))
def roI (c : Nat) : Nat := match c with
  | 0 => 1 | 1 => 2 | 2 => 3 | 3 => 4 | 4 => 7 | 5 => 8
  | 6 => 0 | 7 => 0 | 8 => 0 | 9 => 0 | 10 => 0 | 11 => 0 | 12 => 0 | 13 => 0
  | 14 => 100 | 15 => 100 | 16 => 100 | 17 => 100 | 18 => 100 | 19 => 100 | 20 => 100
  | 21 => 103 | 22 => 106 | 23 => 107
  | _ => 1000
def roL (c : Nat) : Nat := match c with
  | 0 => 5 | 1 => 6 | 2 => 9 | 3 => 0
  | 4 => 100 | 5 => 101 | 6 => 102 | 7 => 104
  | 9 => 200
  | _ => 1000
def rfP (b0 : Nat) (D : va_G) (cA : Nat → ClassId) (st : CwS) (H : Heap) : Prop :=
  (∀ k, k < 11 → va_at D vwCl (b0 + k, rfA b0 cA st k) H) ∧ (∀ i j, i < gR st 101 0 → j < 8 → va_at D vwCl (gR st 102 i + j, rfB cA st (gR st 102 i) i j) H) ∧ ∀ a, gR st 103 a = 1 → va_at D vwCl (a, rfR cA st a) H
/-- the cells lie apart, and are of a kind -/
def rfD (A : Nat → Prop) (b0 : Nat) (st : CwS) : Prop :=
  (∀ i, i < gR st 101 0 → b0 + 11 ≤ gR st 102 i) ∧ (∀ i j, i < j → j < gR st 101 0 → gR st 102 i + 8 ≤ gR st 102 j) ∧ (∀ a, gR st 103 a = 1 → b0 + 11 ≤ a) ∧ (∀ a i, gR st 103 a = 1 → i < gR st 101 0 → a < gR st 102 i ∨ gR st 102 i + 8 ≤ a) ∧
  (∀ k, k < 11 → A (b0 + k)) ∧ (∀ i j, i < gR st 101 0 → j < 8 → A (gR st 102 i + j)) ∧ (∀ a, gR st 103 a = 1 → A a) ∧ ∀ q, gR st 101 2 ≤ q → A q
def rfO (D : va_G) (A : Nat → Prop) (b0 : Nat) (cA : Nat → ClassId) (s : State) (st : CwS) (H : Heap) (locs : List Loc) : Prop := rfP b0 D cA st H ∧ rfD A b0 st ∧ va_S A s.heap H locs ∧ H.size = gR st 101 2
/-- frame i is there, and lies at fa -/
def rfF (st : CwS) (i fa : Nat) : Prop := i < gR st 101 0 ∧ gR st 102 i = fa
theorem rfF.at {b0 : Nat} {D : va_G} {cA : Nat → ClassId} {st : CwS} {H : Heap} {i fa : Nat} (h : rfF st i fa) (hP : rfP b0 D cA st H) (j : Nat) (hj : j < 8) : va_at D vwCl (fa + j, rfB cA st fa i j) H := by
  obtain ⟨h1, rfl⟩ := h
  exact hP.2.1 i j h1 hj
theorem rfA_congr {b0 : Nat} {cA : Nat → ClassId} {st st2 : CwS} (k : Nat) (hI : ∀ c q, roI c = k → gI st2 c 0 q = gI st c 0 q) (hL : ∀ c q, roL c = k → gL st2 c 0 q = gL st c 0 q) (h1 : gR st2 101 0 = gR st 101 0) (h2 : ∀ i, gR st2 102 i = gR st 102 i) : rfA b0 cA st2 k = rfA b0 cA st k := by
  match k, hI, hL with
  | 0, hI, hL => simp only [rfA, hI 6 0 rfl, hI 7 0 rfl, hI 8 0 rfl, hI 9 0 rfl, hI 10 0 rfl, hI 11 0 rfl, hI 12 0 rfl, hI 13 0 rfl, hL 3 0 rfl]
  | 1, hI, _ => simp only [rfA, show gI st2 0 0 = gI st 0 0 from funext fun q => hI 0 q rfl]
  | 2, hI, _ => simp only [rfA, show gI st2 1 0 = gI st 1 0 from funext fun q => hI 1 q rfl]
  | 3, hI, _ => simp only [rfA, show gI st2 2 0 = gI st 2 0 from funext fun q => hI 2 q rfl]
  | 4, hI, _ => simp only [rfA, show gI st2 3 0 = gI st 3 0 from funext fun q => hI 3 q rfl]
  | 5, _, hL => simp only [rfA, show gL st2 0 0 = gL st 0 0 from funext fun q => hL 0 q rfl]
  | 6, _, hL => simp only [rfA, show gL st2 1 0 = gL st 1 0 from funext fun q => hL 1 q rfl]
  | 7, hI, _ => simp only [rfA, show gI st2 4 0 = gI st 4 0 from funext fun q => hI 4 q rfl]
  | 8, hI, _ => simp only [rfA, show gI st2 5 0 = gI st 5 0 from funext fun q => hI 5 q rfl]
  | 9, _, hL => simp only [rfA, show gL st2 2 0 = gL st 2 0 from funext fun q => hL 2 q rfl]
  | 10, _, _ => simp only [rfA, h1, h2]
  | k + 11, _, _ => rfl
theorem rfB_congr {cA : Nat → ClassId} {st st2 : CwS} {fa i : Nat} (j : Nat) (hI : ∀ c q, roI c = 100 + j → gI st2 c i q = gI st c i q) (hL : ∀ c q, roL c = 100 + j → gL st2 c i q = gL st c i q) (h1 : j = 5 → ∀ p, p < 13 → gR st2 50 (16 * i + p) = gR st 50 (16 * i + p)) : rfB cA st2 fa i j = rfB cA st fa i j := by
  match j, hI, hL, h1 with
  | 0, hI, hL, _ => simp only [rfB, hI 14 0 rfl, hI 15 0 rfl, hI 16 0 rfl, hI 17 0 rfl, hI 18 0 rfl, hI 19 0 rfl, hI 20 0 rfl, hL 4 0 rfl]
  | 1, _, hL, _ => simp only [rfB, show gL st2 5 i = gL st 5 i from funext fun q => hL 5 q rfl]
  | 2, _, hL, _ => simp only [rfB, show gL st2 6 i = gL st 6 i from funext fun q => hL 6 q rfl]
  | 3, hI, _, _ => simp only [rfB, show gI st2 21 i = gI st 21 i from funext fun q => hI 21 q rfl]
  | 4, _, hL, _ => simp only [rfB, show gL st2 7 i = gL st 7 i from funext fun q => hL 7 q rfl]
  | 5, _, _, h1 =>
    have e : (fun p => if p < 13 then rqo (gR st2 50 (16 * i + p)) else none) = fun p => if p < 13 then rqo (gR st 50 (16 * i + p)) else none := by
      funext p
      by_cases hp : p < 13
      · rw [if_pos hp, if_pos hp, h1 rfl p hp]
      · rw [if_neg hp, if_neg hp]
    simp only [rfB, e]
  | 6, hI, _, _ => simp only [rfB, show gI st2 22 i = gI st 22 i from funext fun q => hI 22 q rfl]
  | 7, hI, _, _ => simp only [rfB, show gI st2 23 i = gI st 23 i from funext fun q => hI 23 q rfl]
  | j + 8, _, _, _ => rfl
theorem rfR_congr {cA : Nat → ClassId} {st st2 : CwS} {a : Nat} (hL : ∀ q, gL st2 9 a q = gL st 9 a q) (h1 : gR st2 100 a = gR st 100 a) : rfR cA st2 a = rfR cA st a := by
  simp only [rfR, h1, show gL st2 9 a = gL st 9 a from funext hL]
theorem rfD_congr {A : Nat → Prop} {b0 : Nat} {st st2 : CwS} (h : rfD A b0 st) (h1 : ∀ i, gR st2 101 i = gR st 101 i) (h2 : ∀ i, gR st2 102 i = gR st 102 i) (h3 : ∀ i, gR st2 103 i = gR st 103 i) : rfD A b0 st2 := by
  unfold rfD
  simp only [h1, h2, h3]
  exact h
section RFW
variable {D : va_G} {A : Nat → Prop} {b0 : Nat} {cA : Nat → ClassId} {s : State} {st st2 : CwS} {H H1 : Heap} {locs : List Loc}
/-- a write into a fixed cell -/
theorem rf_wF (hO : rfO D A b0 cA s st H locs) {k0 kk : Nat} (hk : k0 < 11) (hI : ∀ c i q, roI c ≠ k0 → gI st2 c i q = gI st c i q) (hL : ∀ c i q, roL c ≠ k0 → gL st2 c i q = gL st c i q) (hR : ∀ c i, gR st2 c i = gR st c i) (hn : va_at D vwCl (b0 + k0, rfA b0 cA st2 k0) H1) (z : H1.size = H.size) (oq : ∀ q : Nat, q ≠ b0 + k0 → H1[q]? = H[q]?) : rfO D A b0 cA s st2 H1 (locs ++ [⟨b0 + k0, kk⟩]) := by
  obtain ⟨⟨hP1, hP2, hP3⟩, hD, hS, hz⟩ := hO
  refine ⟨⟨fun k hk2 => ?_, fun i j hi hj => ?_, fun a ha => ?_⟩, rfD_congr hD (hR 101) (hR 102) (hR 103), hS.put z oq (hD.2.2.2.2.1 k0 hk), by rw [z, hz, hR]⟩
  · by_cases e : k = k0
    · subst e; exact hn
    · rw [rfA_congr k (fun c q hc => hI c 0 q (by rw [hc]; exact e)) (fun c q hc => hL c 0 q (by rw [hc]; exact e)) (hR 101 0) (hR 102)]
      exact (hP1 k hk2).kept (oq _ (by simp only; omega))
  · rw [hR] at hi
    rw [hR, rfB_congr j (fun c q hc => hI c i q (by rw [hc]; omega)) (fun c q hc => hL c i q (by rw [hc]; omega)) (fun _ _ _ => hR _ _)]
    have := hD.1 i hi
    exact (hP2 i j hi hj).kept (oq _ (by simp only; omega))
  · rw [hR] at ha
    rw [rfR_congr (fun q => hL 9 a q (by simp only [roL]; omega)) (hR 100 a)]
    have := hD.2.2.1 a ha
    exact (hP3 a ha).kept (oq _ (by simp only; omega))
/-- a write into a frame's cell -/
theorem rf_wB (hO : rfO D A b0 cA s st H locs) {i0 j0 fa kk : Nat} (hf : rfF st i0 fa) (hj0 : j0 < 8) (hI : ∀ c i q, ¬ (roI c = 100 + j0 ∧ i = i0) → gI st2 c i q = gI st c i q) (hL : ∀ c i q, ¬ (roL c = 100 + j0 ∧ i = i0) → gL st2 c i q = gL st c i q) (hR : ∀ c i, ¬ (c = 50 ∧ j0 = 5 ∧ i / 16 = i0) → gR st2 c i = gR st c i) (h5 : j0 = 5 → ∀ i p, i ≠ i0 → p < 13 → gR st2 50 (16 * i + p) = gR st 50 (16 * i + p)) (hn : va_at D vwCl (fa + j0, rfB cA st2 fa i0 j0) H1) (z : H1.size = H.size) (oq : ∀ q : Nat, q ≠ fa + j0 → H1[q]? = H[q]?) : rfO D A b0 cA s st2 H1 (locs ++ [⟨fa + j0, kk⟩]) := by
  obtain ⟨⟨hP1, hP2, hP3⟩, hD, hS, hz⟩ := hO
  obtain ⟨hi0, rfl⟩ := hf
  have r1 : ∀ i, gR st2 101 i = gR st 101 i := fun i => hR 101 i (by omega)
  have r2 : ∀ i, gR st2 102 i = gR st 102 i := fun i => hR 102 i (by omega)
  have r3 : ∀ i, gR st2 103 i = gR st 103 i := fun i => hR 103 i (by omega)
  have hlo := hD.1 i0 hi0
  refine ⟨⟨fun k hk2 => ?_, fun i j hi hj => ?_, fun a ha => ?_⟩, rfD_congr hD r1 r2 r3, hS.put z oq (hD.2.2.2.2.2.1 i0 j0 hi0 hj0), by rw [z, hz, r1]⟩
  · rw [rfA_congr k (fun c q hc => hI c 0 q (by rw [hc]; omega)) (fun c q hc => hL c 0 q (by rw [hc]; omega)) (r1 0) r2]
    exact (hP1 k hk2).kept (oq _ (by simp only; omega))
  · rw [r1] at hi
    rw [r2]
    by_cases e : i = i0
    · subst e
      by_cases ej : j = j0
      · subst ej; exact hn
      · rw [rfB_congr j (fun c q hc => hI c i q (by rw [hc]; omega)) (fun c q hc => hL c i q (by rw [hc]; omega)) (fun h _ _ => hR _ _ (by omega))]
        exact (hP2 i j hi hj).kept (oq _ (by simp only; omega))
    · have hne : gR st 102 i + j ≠ gR st 102 i0 + j0 := by
        rcases Nat.lt_or_gt_of_ne e with q | q
        · have := hD.2.1 i i0 q hi0; omega
        · have := hD.2.1 i0 i q hi; omega
      have e5 : j = 5 → ∀ p, p < 13 → gR st2 50 (16 * i + p) = gR st 50 (16 * i + p) := fun _ p hp => by
        by_cases h : j0 = 5
        · exact h5 h i p e hp
        · exact hR _ _ (by omega)
      rw [rfB_congr j (fun c q hc => hI c i q (by rw [hc]; omega)) (fun c q hc => hL c i q (by rw [hc]; omega)) e5]
      exact (hP2 i j hi hj).kept (oq _ hne)
  · rw [r3] at ha
    rw [rfR_congr (fun q => hL 9 a q (by simp only [roL]; omega)) (hR 100 a (by omega))]
    have := hD.2.2.2.1 a i0 ha hi0
    exact (hP3 a ha).kept (oq _ (by simp only; omega))
/-- a write into a row -/
theorem rf_wR (hO : rfO D A b0 cA s st H locs) {a0 kk : Nat} (h0 : gR st 103 a0 = 1) (hI : ∀ c i q, gI st2 c i q = gI st c i q) (hL : ∀ c i q, ¬ (c = 9 ∧ i = a0) → gL st2 c i q = gL st c i q) (hR : ∀ c i, gR st2 c i = gR st c i) (hn : va_at D vwCl (a0, rfR cA st2 a0) H1) (z : H1.size = H.size) (oq : ∀ q : Nat, q ≠ a0 → H1[q]? = H[q]?) : rfO D A b0 cA s st2 H1 (locs ++ [⟨a0, kk⟩]) := by
  obtain ⟨⟨hP1, hP2, hP3⟩, hD, hS, hz⟩ := hO
  have hlo := hD.2.2.1 a0 h0
  have key : ∀ c i q, roL c ≠ 200 → gL st2 c i q = gL st c i q := fun c i q hc => hL c i q (fun h => hc (by rw [h.1]; rfl))
  refine ⟨⟨fun k hk2 => ?_, fun i j hi hj => ?_, fun a ha => ?_⟩, rfD_congr hD (hR 101) (hR 102) (hR 103), hS.put z oq (hD.2.2.2.2.2.2.1 a0 h0), by rw [z, hz, hR]⟩
  · rw [rfA_congr k (fun c q _ => hI c 0 q) (fun c q hc => key c 0 q (by rw [hc]; omega)) (hR 101 0) (hR 102)]
    exact (hP1 k hk2).kept (oq _ (by simp only; omega))
  · rw [hR] at hi
    rw [hR, rfB_congr j (fun c q _ => hI c i q) (fun c q hc => key c i q (by rw [hc]; omega)) (fun _ _ _ => hR _ _)]
    have := hD.2.2.2.1 a0 i h0 hi
    exact (hP2 i j hi hj).kept (oq _ (by simp only; omega))
  · rw [hR] at ha
    by_cases e : a = a0
    · subst e; exact hn
    · rw [rfR_congr (fun q => hL 9 a q (by omega)) (hR 100 a)]
      exact (hP3 a ha).kept (oq _ e)
end RFW
