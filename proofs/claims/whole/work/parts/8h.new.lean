-- the class's new object as its world
def cw0 : CwS := (fun c _ _ => if c = 14 then -1 else 0, fun _ _ _ => 0, fun _ _ => 0)
theorem arrV_on {c : ClassId} {N : Nat} {f f2 : Nat → Value} (h : ∀ i, i < N → f i = f2 i) : arrV c N f = arrV c N f2 := by
  unfold arrV
  congr 1
  exact congrArg Array.ofFn (funext fun j => h j.val j.isLt)
theorem at_q {D : va_G} {cl : List vw_C} {q : Nat} {c : ClassId} {N : Nat} {f f2 : Nat → Option Nat} {H : Heap} (h : ∀ i, i < N → f i = f2 i) (w : va_at D cl (q, .inl (c, N, .inr (.inr (.inr (.inr f))))) H) : va_at D cl (q, .inl (c, N, .inr (.inr (.inr (.inr f2))))) H := by
  have e : vp_cell c (N, .inr (.inr (.inr (.inr f)))) = vp_cell c (N, .inr (.inr (.inr (.inr f2)))) := by
    rw [vp_cell_q, vp_cell_q]
    exact arrV_on fun i hi => by rw [h i hi]
  have w2 : H[q]? = some (vp_cell c (N, .inr (.inr (.inr (.inr f))))) := w
  show H[q]? = some (vp_cell c (N, .inr (.inr (.inr (.inr f2)))))
  rw [w2, e]
theorem cw_new {D : va_G} {cA : Nat → ClassId} {b : Nat} {g2 : Nat → va_E} {H : Heap} (h : cwI0 cA b g2) (hP : va_P D vwCl (wd (fun k => b + k) 269 g2) H) : va_P D vwCl (wd (fun k => b + k) 269 (cwc (fun k => b + k) cA cw0)) H := by
  obtain ⟨h0, ⟨gB, gx, ⟨B1, B2, B3, B4, _⟩, kB⟩, ⟨gl, ⟨l0, l1, l2, l3, l4, l5, l6, l7, l8, l9⟩, kL⟩, gW, gy, ⟨W1, W2, W3, W4, _⟩, kW⟩ := h
  have at_ : ∀ k, k < 269 → va_at D vwCl (b + k, g2 k) H := fun k hk => hP k _ (wd_get hk rfl)
  have same : ∀ k, k < 269 → g2 k = cwc (fun k => b + k) cA cw0 k → va_at D vwCl (b + k, cwc (fun k => b + k) cA cw0 k) H := fun k hk e => by rw [← e]; exact at_ k hk
  intro k x hx
  obtain ⟨hk, rfl⟩ := wd_at hx
  show va_at D vwCl (b + k, cwc (fun k => b + k) cA cw0 k) H
  by_cases k0 : k = 0
  · subst k0; exact same 0 hk (by rw [h0, cc_CW])
  by_cases k1 : k = 1
  · subst k1; exact same 1 hk (by rw [kB 1 (by omega) (by omega), B1, cc_Book])
  by_cases k2 : k = 2
  · subst k2
    have w := at_ 2 hk
    rw [kB 2 (by omega) (by omega), B2] at w
    rw [cc_BehArr]
    exact at_q (fun i hi => by rw [if_pos hi]) w
  by_cases k3 : k = 3
  · subst k3; exact same 3 hk (by rw [kB 3 (by omega) (by omega), B3, cc_Guard]; rfl)
  by_cases k148 : k < 148
  · obtain ⟨i, hi, e⟩ : ∃ i, i < 48 ∧ (k = 4 + 3 * i ∨ k = 5 + 3 * i ∨ k = 6 + 3 * i) := ⟨(k - 4) / 3, by omega, by omega⟩
    obtain ⟨c1, c2, c3⟩ := B4 i hi
    rcases e with e | e | e
    · subst e
      refine same _ hk ?_
      rw [kB _ (by omega) (by omega), cc_Beh hi, show 4 + 3 * i = 2 + 2 + 3 * i by omega, c1, show 2 + 2 + 3 * i + 1 = 5 + 3 * i by omega, show 2 + 2 + 3 * i + 2 = 6 + 3 * i by omega]
      rfl
    · subst e
      refine same _ hk ?_
      rw [kB _ (by omega) (by omega), cc_Codes hi, show 5 + 3 * i = 2 + 2 + 3 * i + 1 by omega, c2]
      rfl
    · subst e
      refine same _ hk ?_
      rw [kB _ (by omega) (by omega), cc_Nums hi, show 6 + 3 * i = 2 + 2 + 3 * i + 2 by omega, c3]
      rfl
  by_cases k179 : 179 ≤ k
  · obtain ⟨i, hi, e⟩ : ∃ i, i < 10 ∧ (k = 179 + 9 * i ∨ k = 180 + 9 * i ∨ k = 181 + 9 * i ∨ k = 182 + 9 * i ∨ k = 183 + 9 * i ∨ k = 184 + 9 * i ∨ k = 185 + 9 * i ∨ k = 186 + 9 * i ∨ k = 187 + 9 * i) := ⟨(k - 179) / 9, by omega, by omega⟩
    obtain ⟨c0, c1, c2, c3, c4, c5, c6, c7, c8⟩ := W4 i hi
    rw [show 177 + 2 + 9 * i = 179 + 9 * i by omega] at c0 c1 c2 c3 c4 c5 c6 c7 c8
    have s : ∀ j, 179 + 9 * i + j = (179 + j) + 9 * i := fun j => by omega
    rcases e with e | e | e | e | e | e | e | e | e
    · subst e; refine same _ hk ?_; rw [kW _ (by omega) (by omega), cc_Frame hi, c0, s, s, s, s]; rfl
    · subst e; refine same _ hk ?_; rw [kW _ (by omega) (by omega), cc_HSteps hi, show 180 + 9 * i = 179 + 9 * i + 1 by omega, c1]; rfl
    · subst e; refine same _ hk ?_; rw [kW _ (by omega) (by omega), cc_HHeights hi, show 181 + 9 * i = 179 + 9 * i + 2 by omega, c2]; rfl
    · subst e; refine same _ hk ?_; rw [kW _ (by omega) (by omega), cc_Pile hi, show 182 + 9 * i = 179 + 9 * i + 3 by omega, c3, s, s]; rfl
    · subst e; refine same _ hk ?_; rw [kW _ (by omega) (by omega), cc_PKinds hi, show 183 + 9 * i = 179 + 9 * i + 4 by omega, c4]; rfl
    · subst e; refine same _ hk ?_; rw [kW _ (by omega) (by omega), cc_PNums hi, show 184 + 9 * i = 179 + 9 * i + 5 by omega, c5]; rfl
    · subst e; refine same _ hk ?_; rw [kW _ (by omega) (by omega), cc_Rows hi, show 185 + 9 * i = 179 + 9 * i + 6 by omega, c6, s, s, s]
    · subst e; refine same _ hk ?_; rw [kW _ (by omega) (by omega), cc_Elems hi, show 186 + 9 * i = 179 + 9 * i + 7 by omega, c7]; rfl
    · subst e; refine same _ hk ?_; rw [kW _ (by omega) (by omega), cc_Lens hi, show 187 + 9 * i = 179 + 9 * i + 8 by omega, c8]; rfl
  by_cases r1 : 154 ≤ k ∧ k < 164
  · obtain ⟨i, hi, e⟩ : ∃ i, i < 10 ∧ k = 154 + 1 * i := ⟨k - 154, by omega, by omega⟩
    subst e
    refine same _ hk ?_
    rw [kL _ (by omega) (by omega), cc_KL hi, Nat.one_mul, l8 i hi]; rfl
  by_cases r2 : 165 ≤ k ∧ k < 175
  · obtain ⟨i, hi, e⟩ : ∃ i, i < 10 ∧ k = 165 + 1 * i := ⟨k - 165, by omega, by omega⟩
    subst e
    refine same _ hk ?_
    rw [kL _ (by omega) (by omega), cc_KB hi, Nat.one_mul, l9 i hi]; rfl
  obtain e | e | e | e | e | e | e | e | e | e | e : k = 148 ∨ k = 149 ∨ k = 150 ∨ k = 151 ∨ k = 152 ∨ k = 153 ∨ k = 164 ∨ k = 175 ∨ k = 176 ∨ k = 177 ∨ k = 178 := by omega
  · subst e; refine same _ hk ?_; rw [kL _ (by omega) (by omega), cc_Ledger, l0]; rfl
  · subst e; refine same _ hk ?_; rw [kL _ (by omega) (by omega), cc_Leaves, l1]; rfl
  · subst e; refine same _ hk ?_; rw [kL _ (by omega) (by omega), cc_Bals, l2]; rfl
  · subst e; refine same _ hk ?_; rw [kL _ (by omega) (by omega), cc_EvC, l3]; rfl
  · subst e; refine same _ hk ?_; rw [kL _ (by omega) (by omega), cc_EvN, l4]; rfl
  · subst e
    have w := at_ 153 hk
    rw [kL 153 (by omega) (by omega), l5] at w
    rw [cc_KLo]
    exact at_q (fun i hi => by rw [if_pos hi]; congr 1; omega) w
  · subst e
    have w := at_ 164 hk
    rw [kL 164 (by omega) (by omega), l6] at w
    rw [cc_KBo]
    exact at_q (fun i hi => by rw [if_pos hi]; congr 1; omega) w
  · subst e; refine same _ hk ?_; rw [kL _ (by omega) (by omega), cc_KC, l7]; rfl
  · subst e; refine same _ hk ?_; rw [kW _ (by omega) (by omega), cc_Walk, W1]; rfl
  · subst e
    have w := at_ 177 hk
    rw [kW 177 (by omega) (by omega), W2] at w
    rw [cc_FrArr]
    exact at_q (fun i hi => by rw [if_pos hi]) w
  · subst e; refine same _ hk ?_; rw [kW _ (by omega) (by omega), cc_Counts, W3]; rfl
