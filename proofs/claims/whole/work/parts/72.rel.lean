-- PURE: the class's state against the reference's
theorem ixn {n m : Nat} (h : n < m) (h2 : n < 2 ^ 31) : ix (nI n) m = true := by
  refine decide_eq_true ⟨?_, ?_⟩ <;> rw [nI_toInt h2] <;> omega
theorem ckn {α : Type} {n m : Nat} {x : Option α} (h : n < m) (h2 : n < 2 ^ 31) : ck (ix (nI n) m) x = x := ck_t (ixn h h2)
/-- a value of the class's pile and one of the reference's -/
def vR (a b : CwS) (i base : Nat) (kd : Int32) (va vb : Int64) (r : Nat) : Prop :=
  ((kd = 0 ∨ kd = 3) ∧ va = vb ∧ r = 0) ∨ ((kd = 1 ∨ kd = 2) ∧ ∃ ρ α n : Nat, ρ < 12 ∧ va = lN ρ ∧ r = α + 1 ∧ base ≤ α ∧ α < gR b 101 2 ∧ gR b 103 α = 1 ∧ gR b 100 α = n ∧ n ≤ 16 ∧ gI a 20 i ρ = nI n ∧ ∀ k, k < n → gL a 7 i (16 * ρ + k) = gL b 9 α k)
def aR (kd : Int32) (va : Int64) (r : Nat) (kd' : Int32) (va' : Int64) (r' : Nat) : Prop := (kd = 1 ∨ kd = 2) → (kd' = 1 ∨ kd' = 2) → (va = va' ↔ r = r')
def pR (a b : CwS) (i base H : Nat) : Prop :=
  (∀ p, p < H → gI b 21 i p = gI a 17 i p ∧ vR a b i base (gI a 17 i p) (gL a 6 i p) (gL b 7 i p) (gR b 50 (16 * i + p))) ∧
  (∀ p q, p < H → q < H → aR (gI a 17 i p) (gL a 6 i p) (gR b 50 (16 * i + p)) (gI a 17 i q) (gL a 6 i q) (gR b 50 (16 * i + q)))
def rBook (a b : CwS) : Prop := (∀ B, B < 48 → ∃ m, m ≤ 24 ∧ gI a 2 B 0 = nI m ∧ gI b 2 0 B = nI m ∧ ∀ p, p < 24 → gI a 0 B p = gI b 0 0 (24 * B + p) ∧ gI a 1 B p = gI b 1 0 (24 * B + p)) ∧ gI a 3 0 = gI b 3 0
def rLed (a b : CwS) : Prop := gL a 0 0 = gL b 0 0 ∧ gL a 1 0 = gL b 1 0 ∧ gI a 4 0 = gI b 5 0 ∧ gL a 2 0 = gL b 2 0 ∧ ∃ e, e ≤ 40 ∧ gI a 5 0 0 = nI e ∧ gI b 7 0 0 = nI e
def rCnt (a b : CwS) (T F : Nat) : Prop := gI a 7 0 0 = nI T ∧ gI b 8 0 0 = nI T ∧ gI a 7 0 1 = nI F ∧ gI b 9 0 0 = nI F ∧ F ≤ 10 ∧ gI a 7 0 2 = gI b 10 0 0 ∧ gI a 7 0 3 = gI b 11 0 0 ∧ gI a 7 0 4 = gI b 12 0 0
def rDep (a b : CwS) (d : Nat) : Prop := gI a 8 0 0 = nI d ∧ gI b 13 0 0 = nI d ∧ ∀ c, c < 8 → ∃ u, u ≤ d ∧ gI b 4 0 c = nI u ∧ (0 < u ↔ ∃ j, j < d ∧ gI a 13 j 0 = nI c)
def rHan (a b : CwS) (i hn : Nat) : Prop := gI a 12 i 0 = nI hn ∧ gI b 19 i 0 = nI hn ∧ hn ≤ 4 ∧ ∀ k, k < hn → ∃ s hh, gI a 10 i k = nI s ∧ gI b 22 i k = nI s ∧ s ≤ 24 ∧ gI a 11 i k = nI hh ∧ gI b 23 i k = nI hh ∧ hh < 12
def rNx (a b : CwS) (i n : Nat) : Prop := gI a 15 i 0 = nI n ∧ gI b 20 i 0 = nI n ∧ n ≤ 24
def rFr (a b : CwS) (i c bb S T : Nat) : Prop := gI a 13 i 0 = nI c ∧ gI b 14 i 0 = nI c ∧ c < 8 ∧ gR a 0 i = 6 * c + bb ∧ gI b 16 i 0 = nI bb ∧ bb < 6 ∧ gI a 14 i 0 = gI b 15 i 0 ∧ gI a 16 i 0 = nI S ∧ gI b 17 i 0 = nI (S - T) ∧ T ≤ S ∧ S ≤ 600
def rHi (a b : CwS) (i h H : Nat) : Prop := gI a 18 i 0 = nI h ∧ gI b 18 i 0 = nI h ∧ h ≤ H ∧ H ≤ 12
def rHp (b : CwS) (i base : Nat) : Prop := i < 10 ∧ i < gR b 101 0 ∧ gR b 101 0 ≤ 10 ∧ base ≤ gR b 101 2
def Rel (a b : CwS) (i base T F S c bb n hn h H : Nat) : Prop := rBook a b ∧ rLed a b ∧ rCnt a b T F ∧ rDep a b (i + 1) ∧ rFr a b i c bb S T ∧ rNx a b i n ∧ rHan a b i hn ∧ pR a b i base H ∧ rHi a b i h H ∧ rHp b i base
def cOkI (i g k j p : Nat) : Prop := (10 ≤ k ∧ i ≤ j) ∨ k = 4 ∨ k = 5 ∨ k = 7 ∨ k = 8 ∨ (k = 6 ∧ g < p)
def cOkL (i g k j : Nat) : Prop := (6 ≤ k ∧ i ≤ j) ∨ k ≤ 2 ∨ ((k = 3 ∨ k = 4) ∧ g < j)
/-- frames below i, and what was kept up to level g, are left of the class's state -/
def SameX (i g : Nat) (a a' : CwS) : Prop := (∀ k j p, ¬ cOkI i g k j p → gI a' k j p = gI a k j p) ∧ (∀ k j p, ¬ cOkL i g k j → gL a' k j p = gL a k j p) ∧ (∀ k j, ¬ (k = 0 ∧ i ≤ j) → gR a' k j = gR a k j)
def mOkI (i k j : Nat) : Prop := (14 ≤ k ∧ i ≤ j) ∨ (5 ≤ k ∧ k ≤ 12)
def mOkL (i g base k j : Nat) : Prop := k ≤ 2 ∨ (k = 7 ∧ i ≤ j) ∨ ((k = 4 ∨ k = 5 ∨ k = 6) ∧ g < j) ∨ (k = 9 ∧ base ≤ j)
def mOkR (i base k j : Nat) : Prop := (k = 50 ∧ 16 * i ≤ j) ∨ ((k = 100 ∨ k = 103) ∧ base ≤ j) ∨ k = 101 ∨ k = 102
/-- and of the reference's -/
def SameY (i g base : Nat) (b b' : CwS) : Prop := (∀ k j p, ¬ mOkI i k j → gI b' k j p = gI b k j p) ∧ (∀ k j p, ¬ mOkL i g base k j → gL b' k j p = gL b k j p) ∧ (∀ k j, ¬ mOkR i base k j → gR b' k j = gR b k j) ∧ gR b 101 0 ≤ gR b' 101 0 ∧ gR b 101 2 ≤ gR b' 101 2
theorem SameX.refl (i g : Nat) (a : CwS) : SameX i g a a := ⟨fun _ _ _ _ => rfl, fun _ _ _ _ => rfl, fun _ _ _ => rfl⟩
theorem SameX.trans {i g : Nat} {a b c : CwS} (h : SameX i g a b) (w : SameX i g b c) : SameX i g a c := ⟨fun k j p q => (w.1 k j p q).trans (h.1 k j p q), fun k j p q => (w.2.1 k j p q).trans (h.2.1 k j p q), fun k j q => (w.2.2 k j q).trans (h.2.2 k j q)⟩
theorem SameX.mono {i g i2 g2 : Nat} {a b : CwS} (h : SameX i2 g2 a b) (hi : i ≤ i2) (hg : g ≤ g2) : SameX i g a b := by
  refine ⟨fun k j p q => h.1 k j p fun w => q ?_, fun k j p q => h.2.1 k j p fun w => q ?_, fun k j q => h.2.2 k j fun w => q ?_⟩
  · unfold cOkI at w ⊢; omega
  · unfold cOkL at w ⊢; omega
  · omega
theorem SameX.wI {i g : Nat} {a b : CwS} (h : SameX i g a b) {k j p : Nat} (v : Int32) (w : cOkI i g k j p) : SameX i g a (sI b k j p v) := by
  refine ⟨fun k2 j2 p2 q => ?_, h.2.1, h.2.2⟩
  rw [gI_sI, if_neg]
  · exact h.1 _ _ _ q
  · rintro ⟨rfl, rfl, rfl⟩; exact q w
theorem SameX.wL {i g : Nat} {a b : CwS} (h : SameX i g a b) {k j p : Nat} (v : Int64) (w : cOkL i g k j) : SameX i g a (sL b k j p v) := by
  refine ⟨h.1, fun k2 j2 p2 q => ?_, h.2.2⟩
  rw [gL_sL, if_neg]
  · exact h.2.1 _ _ _ q
  · rintro ⟨rfl, rfl, rfl⟩; exact q w
theorem SameX.wR {i g : Nat} {a b : CwS} (h : SameX i g a b) {j : Nat} (v : Nat) (w : i ≤ j) : SameX i g a (sR b 0 j v) := by
  refine ⟨h.1, h.2.1, fun k2 j2 q => ?_⟩
  rw [gR_sR, if_neg]
  · exact h.2.2 _ _ q
  · rintro ⟨rfl, rfl⟩; exact q ⟨rfl, w⟩
theorem SameX.wC {i g : Nat} {a b : CwS} (h : SameX i g a b) {k1 j1 p1 k j p n : Nat} (w : cOkL i g k j) : SameX i g a (cL b k1 j1 p1 k j p n) := by
  refine ⟨h.1, fun k2 j2 p2 q => ?_, h.2.2⟩
  rw [gL_cL, if_neg]
  · exact h.2.1 _ _ _ q
  · rintro ⟨rfl, rfl, _⟩; exact q w
theorem SameY.refl (i g base : Nat) (a : CwS) : SameY i g base a a := ⟨fun _ _ _ _ => rfl, fun _ _ _ _ => rfl, fun _ _ _ => rfl, Nat.le_refl _, Nat.le_refl _⟩
theorem SameY.trans {i g base : Nat} {a b c : CwS} (h : SameY i g base a b) (w : SameY i g base b c) : SameY i g base a c := ⟨fun k j p q => (w.1 k j p q).trans (h.1 k j p q), fun k j p q => (w.2.1 k j p q).trans (h.2.1 k j p q), fun k j q => (w.2.2.1 k j q).trans (h.2.2.1 k j q), Nat.le_trans h.2.2.2.1 w.2.2.2.1, Nat.le_trans h.2.2.2.2 w.2.2.2.2⟩
theorem SameY.mono {i g base i2 g2 base2 : Nat} {a b : CwS} (h : SameY i2 g2 base2 a b) (hi : i ≤ i2) (hg : g ≤ g2) (hb : base ≤ base2) : SameY i g base a b := by
  refine ⟨fun k j p q => h.1 k j p fun w => q ?_, fun k j p q => h.2.1 k j p fun w => q ?_, fun k j q => h.2.2.1 k j fun w => q ?_, h.2.2.2⟩
  · unfold mOkI at w ⊢; omega
  · unfold mOkL at w ⊢; omega
  · unfold mOkR at w ⊢; omega
theorem SameY.wI {i g base : Nat} {a b : CwS} (h : SameY i g base a b) {k j p : Nat} (v : Int32) (w : mOkI i k j) : SameY i g base a (sI b k j p v) := by
  refine ⟨fun k2 j2 p2 q => ?_, h.2.1, h.2.2⟩
  rw [gI_sI, if_neg]
  · exact h.1 _ _ _ q
  · rintro ⟨rfl, rfl, rfl⟩; exact q w
theorem SameY.wL {i g base : Nat} {a b : CwS} (h : SameY i g base a b) {k j p : Nat} (v : Int64) (w : mOkL i g base k j) : SameY i g base a (sL b k j p v) := by
  refine ⟨h.1, fun k2 j2 p2 q => ?_, h.2.2⟩
  rw [gL_sL, if_neg]
  · exact h.2.1 _ _ _ q
  · rintro ⟨rfl, rfl, rfl⟩; exact q w
theorem SameY.wC {i g base : Nat} {a b : CwS} (h : SameY i g base a b) {k1 j1 p1 k j p n : Nat} (w : mOkL i g base k j) : SameY i g base a (cL b k1 j1 p1 k j p n) := by
  refine ⟨h.1, fun k2 j2 p2 q => ?_, h.2.2⟩
  rw [gL_cL, if_neg]
  · exact h.2.1 _ _ _ q
  · rintro ⟨rfl, rfl, _⟩; exact q w
theorem SameY.wR {i g base : Nat} {a b : CwS} (h : SameY i g base a b) {j : Nat} (v : Nat) (w : 16 * i ≤ j) : SameY i g base a (sR b 50 j v) := by
  refine ⟨h.1, h.2.1, fun k2 j2 q => ?_, h.2.2.2⟩
  rw [gR_sR, if_neg]
  · exact h.2.2.1 _ _ q
  · rintro ⟨rfl, rfl⟩; exact q (Or.inl ⟨rfl, w⟩)
theorem SameY.new {i g base : Nat} {a b : CwS} (h : SameY i g base a b) (n : Nat) (w : base ≤ gR b 101 2) : SameY i g base a (rNew b n) := by
  refine ⟨h.1, fun k j p q => ?_, fun k j q => ?_, h.2.2.2.1, Nat.le_trans h.2.2.2.2 (Nat.le_succ _)⟩
  · show gL (zL b 9 (gR b 101 2)) k j p = _
    rw [gL_zL, if_neg]
    · exact h.2.1 _ _ _ q
    · rintro ⟨rfl, rfl⟩; exact q (by unfold mOkL; omega)
  · unfold rNew
    unfold mOkR at q
    rw [gR_sR, if_neg (by omega), gR_sR, if_neg (by omega), gR_sR, if_neg (by omega), gR_sR, if_neg (by omega)]
    exact h.2.2.1 _ _ (by unfold mOkR; omega)
abbrev SameC (i : Nat) (a a' : CwS) : Prop := SameX i i a a'
abbrev SameM (i base : Nat) (b b' : CwS) : Prop := SameY i i base b b'
theorem SameC.refl (i : Nat) (a : CwS) : SameC i a a := SameX.refl i i a
theorem SameM.refl (i base : Nat) (a : CwS) : SameM i base a a := SameY.refl i i base a
/-- what a step that is neither a call nor an end comes to -/
def Good (a b : CwS) (i base T F S c bb : Nat) (x y : Option (Int32 × CwS)) : Prop := ∃ (k n hn h : Nat) (a' b' : CwS), x = some (nI k, a') ∧ y = some (nI k, b') ∧ k ≤ 20 ∧ Rel a' b' i base T F S c bb n hn h h ∧ SameC i a a' ∧ SameM i base b b' ∧ gR b' 101 0 = gR b 101 0 ∧ gR b' 101 2 ≤ gR b 101 2 + 1 ∧ gR b' 101 3 ≤ gR b 101 3 + 16
theorem pR.low {a b : CwS} {i base H h : Nat} (r : pR a b i base H) (g : h ≤ H) : pR a b i base h := ⟨fun p q => r.1 p (Nat.lt_of_lt_of_le q g), fun p q h1 h2 => r.2 p q (Nat.lt_of_lt_of_le h1 g) (Nat.lt_of_lt_of_le h2 g)⟩
theorem Rel.low {a b : CwS} {i base T F S c bb n hn h H : Nat} (r : Rel a b i base T F S c bb n hn h H) : Rel a b i base T F S c bb n hn h h := by
  obtain ⟨r1, r2, r3, r4, r5, r6, r7, r8, ⟨r9, r10, r11, r12⟩, r13⟩ := r
  exact ⟨r1, r2, r3, r4, r5, r6, r7, r8.low r11, ⟨r9, r10, Nat.le_refl _, Nat.le_trans r11 r12⟩, r13⟩
theorem gd_fail {a b : CwS} {i base T F S c bb n hn h H : Nat} (k : Nat) (hk : k ≤ 20) (r : Rel a b i base T F S c bb n hn h H) : Good a b i base T F S c bb (some (nI k, a)) (some (nI k, b)) := ⟨k, n, hn, h, a, b, rfl, rfl, hk, r.low, SameC.refl _ _, SameM.refl _ _ _, rfl, Nat.le_succ _, Nat.le_add_right _ _⟩
-- what is put
def aP (a : CwS) (i h : Nat) (kd : Int32) (v : Int64) : CwS := sI (sL (sI a 17 i h kd) 6 i h v) 18 i 0 (nI (h + 1))
def bP (b : CwS) (i h : Nat) (kd : Int32) (v : Int64) (r : Nat) : CwS := sI (sR (sL (sI b 21 i h kd) 7 i h v) 50 (16 * i + h) r) 18 i 0 (nI (h + 1))
theorem q_put {a : CwS} {i h : Nat} {kd : Int32} {v : Int64} (e : gI a 18 i 0 = nI h) (g : h < 12) : j_Pile_put i kd v a = some (0, aP a i h kd v) := by
  have e2 : (nI h).toNatClampNeg = h := nI_clamp (by omega)
  rw [p_put i kd v a (by rw [e]; exact nI_pos (by omega)) (by rw [e]; exact nI_lt (b := 12) g (by omega))]
  unfold pPut aP
  rw [e, e2, nI_1]
theorem q_putNumber {a : CwS} {i h : Nat} {v : Int64} (e : gI a 18 i 0 = nI h) (g : h < 12) : j_Pile_putNumber i v a = some (0, aP a i h 0 v) := by
  unfold j_Pile_putNumber
  rw [q_put e g, bR_s]
theorem q_push {b : CwS} {i h : Nat} {kd : Int32} {v : Int64} {r : Nat} (e : gI b 18 i 0 = nI h) (g : h < 13) (hr : r = 0 ∨ isRow b r = true) : j_MF_push i kd v r b = some (bP b i h kd v r) := by
  have e2 : (nI h).toNatClampNeg = h := nI_clamp (by omega)
  rw [m_push i kd v r b (by rw [e]; exact ixn g (by omega)) hr]
  unfold mPush bP
  rw [e, e2, nI_1]
theorem q_number {b : CwS} {i h : Nat} {v : Int64} (e : gI b 18 i 0 = nI h) (g : h < 13) : j_MF_number i v b = some (bP b i h 0 v 0) := by
  unfold j_MF_number
  rw [q_push e g (Or.inl rfl), bV_s]
theorem aP_k {a : CwS} {i h : Nat} {kd : Int32} {v : Int64} (p : Nat) : gI (aP a i h kd v) 17 i p = if p = h then kd else gI a 17 i p := by
  show gI (sI a 17 i h kd) 17 i p = _
  rw [gI_sI]; simp
theorem aP_n {a : CwS} {i h : Nat} {kd : Int32} {v : Int64} (p : Nat) : gL (aP a i h kd v) 6 i p = if p = h then v else gL a 6 i p := by
  show gL (sL (sI a 17 i h kd) 6 i h v) 6 i p = _
  rw [gL_sL]; simp; rfl
theorem bP_k {b : CwS} {i h : Nat} {kd : Int32} {v : Int64} {r : Nat} (p : Nat) : gI (bP b i h kd v r) 21 i p = if p = h then kd else gI b 21 i p := by
  show gI (sI b 21 i h kd) 21 i p = _
  rw [gI_sI]; simp
theorem bP_n {b : CwS} {i h : Nat} {kd : Int32} {v : Int64} {r : Nat} (p : Nat) : gL (bP b i h kd v r) 7 i p = if p = h then v else gL b 7 i p := by
  show gL (sL (sI b 21 i h kd) 7 i h v) 7 i p = _
  rw [gL_sL]; simp; rfl
theorem bP_r {b : CwS} {i h : Nat} {kd : Int32} {v : Int64} {r : Nat} (p : Nat) : gR (bP b i h kd v r) 50 (16 * i + p) = if p = h then r else gR b 50 (16 * i + p) := by
  show gR (sR (sL (sI b 21 i h kd) 7 i h v) 50 (16 * i + h) r) 50 (16 * i + p) = _
  rw [gR_sR]
  by_cases e : p = h
  · subst e; simp
  · rw [if_neg (by omega), if_neg e]; rfl
theorem gI_18 {a : CwS} {i : Nat} {v : Int32} : gI (sI a 18 i 0 v) 18 i 0 = v := by rw [gI_sI]; simp
theorem aP_h {a : CwS} {i h : Nat} {kd : Int32} {v : Int64} : gI (aP a i h kd v) 18 i 0 = nI (h + 1) := gI_18
theorem bP_h {b : CwS} {i h : Nat} {kd : Int32} {v : Int64} {r : Nat} : gI (bP b i h kd v r) 18 i 0 = nI (h + 1) := gI_18
/-- a related value put on both piles -/
theorem Rel.push {a b : CwS} {i base T F S c bb n hn h H : Nat} (r : Rel a b i base T F S c bb n hn h H) (g : h < 12) {kd : Int32} {va vb : Int64} {rr : Nat} (hv : vR a b i base kd va vb rr) (ha : ∀ q, q < h → aR (gI a 17 i q) (gL a 6 i q) (gR b 50 (16 * i + q)) kd va rr) : Rel (aP a i h kd va) (bP b i h kd vb rr) i base T F S c bb n hn (h + 1) (h + 1) := by
  obtain ⟨r1, r2, r3, r4, r5, r6, r7, r8, ⟨r9, r10, r11, r12⟩, r13⟩ := r
  refine ⟨r1, r2, r3, r4, r5, r6, r7, ⟨fun p hp => ?_, fun p q hp hq => ?_⟩, ⟨aP_h, bP_h, Nat.le_refl _, by omega⟩, r13⟩
  · rw [aP_k, aP_n, bP_k, bP_n, bP_r]
    by_cases e : p = h
    · rw [if_pos e, if_pos e, if_pos e, if_pos e, if_pos e]
      exact ⟨rfl, hv⟩
    · rw [if_neg e, if_neg e, if_neg e, if_neg e, if_neg e]
      exact r8.1 p (by omega)
  · rw [aP_k, aP_n, bP_r, aP_k, aP_n, bP_r]
    by_cases e : p = h
    · by_cases e2 : q = h
      · simp only [e, e2, if_true]
        exact fun _ _ => ⟨fun _ => rfl, fun _ => rfl⟩
      · simp only [e, e2, if_true, if_false]
        intro k1 k2
        have := ha q (by omega) k2 k1
        exact ⟨fun z => (this.mp z.symm).symm, fun z => (this.mpr z.symm).symm⟩
    · by_cases e2 : q = h
      · simp only [e, e2, if_true, if_false]
        exact ha p (by omega)
      · simp only [e, e2, if_false]
        exact r8.2 p q (by omega) (by omega)
theorem SameX.put {i g h : Nat} {a a' : CwS} {kd : Int32} {v : Int64} (s : SameX i g a a') : SameX i g a (aP a' i h kd v) := ((s.wI kd (by unfold cOkI; omega)).wL v (by unfold cOkL; omega)).wI _ (by unfold cOkI; omega)
theorem SameY.put {i g base h : Nat} {b b' : CwS} {kd : Int32} {v : Int64} {r : Nat} (s : SameY i g base b b') : SameY i g base b (bP b' i h kd v r) := (((s.wI kd (by unfold mOkI; omega)).wL v (by unfold mOkL; omega)).wR r (by omega)).wI _ (by unfold mOkI; omega)
theorem aR_no {kd : Int32} {va : Int64} {r : Nat} {kd' : Int32} {va' : Int64} {r' : Nat} (h : kd' = 0 ∨ kd' = 3) : aR kd va r kd' va' r' := by
  intro _ k
  rcases h with rfl | rfl <;> rcases k with k | k <;> exact absurd k (by decide)
/-- a number (or nothing) put on both -/
theorem Rel.push0 {a b : CwS} {i base T F S c bb n hn h H : Nat} (r : Rel a b i base T F S c bb n hn h H) (g : h < 12) (kd : Int32) (hk : kd = 0 ∨ kd = 3) (v : Int64) : Rel (aP a i h kd v) (bP b i h kd v 0) i base T F S c bb n hn (h + 1) (h + 1) := r.push g (Or.inl ⟨hk, rfl, rfl⟩) fun _ _ => aR_no hk
theorem gd_put {a b : CwS} {i base T F S c bb n hn h H : Nat} (r : Rel a b i base T F S c bb n hn h H) (g : h < 12) (v : Int64) : Good a b i base T F S c bb (j_Pile_putNumber i v a) (bV (j_MF_number i v b) fun t => some (0, t)) := by
  have q1 := r.2.2.2.2.2.2.2.2.1
  rw [q_putNumber q1.1 g, q_number q1.2.1 (by omega), bV_s]
  exact ⟨0, n, hn, h + 1, _, _, rfl, rfl, by omega, r.push0 g 0 (Or.inl rfl) v, (SameC.refl _ _).put, (SameM.refl _ _ _).put, rfl, Nat.le_succ _, Nat.le_add_right _ _⟩
