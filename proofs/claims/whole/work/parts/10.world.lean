-- the class's state: ints, longs, references, by kind of place, instance, place
def CwS : Type := (Nat → Nat → Nat → Int32) × (Nat → Nat → Nat → Int64) × (Nat → Nat → Nat)
def gI (st : CwS) (c i p : Nat) : Int32 := st.1 c i p
def gL (st : CwS) (c i p : Nat) : Int64 := st.2.1 c i p
def gR (st : CwS) (c i : Nat) : Nat := st.2.2 c i
def sI (st : CwS) (c i p : Nat) (v : Int32) : CwS := (fun c' i' p' => if c' = c then (if i' = i then (if p' = p then v else st.1 c' i' p') else st.1 c' i' p') else st.1 c' i' p', st.2.1, st.2.2)
def sL (st : CwS) (c i p : Nat) (v : Int64) : CwS := (st.1, fun c' i' p' => if c' = c then (if i' = i then (if p' = p then v else st.2.1 c' i' p') else st.2.1 c' i' p') else st.2.1 c' i' p', st.2.2)
def sR (st : CwS) (c i : Nat) (v : Nat) : CwS := (st.1, st.2.1, fun c' i' => if c' = c then (if i' = i then v else st.2.2 c' i') else st.2.2 c' i')
/-- n longs from place p of (c, i) to place p2 of (c2, i2) -/
def cL (st : CwS) (c i p c2 i2 p2 n : Nat) : CwS := (st.1, fun c' i' p' => if c' = c2 then (if i' = i2 then va_cpy (gL st c i) (gL st c2 i2) p p2 n p' else st.2.1 c' i' p') else st.2.1 c' i' p', st.2.2)
theorem gI_sI (st : CwS) (c i p : Nat) (v : Int32) (c' i' p' : Nat) : gI (sI st c i p v) c' i' p' = if c' = c ∧ i' = i ∧ p' = p then v else gI st c' i' p' := by
  by_cases h1 : c' = c <;> by_cases h2 : i' = i <;> by_cases h3 : p' = p <;> simp [gI, sI, h1, h2, h3]
theorem gL_sL (st : CwS) (c i p : Nat) (v : Int64) (c' i' p' : Nat) : gL (sL st c i p v) c' i' p' = if c' = c ∧ i' = i ∧ p' = p then v else gL st c' i' p' := by
  by_cases h1 : c' = c <;> by_cases h2 : i' = i <;> by_cases h3 : p' = p <;> simp [gL, sL, h1, h2, h3]
theorem gR_sR (st : CwS) (c i v : Nat) (c' i' : Nat) : gR (sR st c i v) c' i' = if c' = c ∧ i' = i then v else gR st c' i' := by
  by_cases h1 : c' = c <;> by_cases h2 : i' = i <;> simp [gR, sR, h1, h2]
theorem gL_cL (st : CwS) (c i p c2 i2 p2 n : Nat) (c' i' p' : Nat) : gL (cL st c i p c2 i2 p2 n) c' i' p' = if c' = c2 ∧ i' = i2 ∧ p2 ≤ p' ∧ p' < p2 + n then gL st c i (p + (p' - p2)) else gL st c' i' p' := by
  by_cases h1 : c' = c2 <;> by_cases h2 : i' = i2 <;> by_cases h3 : p2 ≤ p' ∧ p' < p2 + n <;> simp [gL, cL, va_cpy, h1, h2, h3]
theorem gI_sL (st : CwS) (c i p : Nat) (v : Int64) (c' i' p' : Nat) : gI (sL st c i p v) c' i' p' = gI st c' i' p' := rfl
theorem gI_sR (st : CwS) (c i v : Nat) (c' i' p' : Nat) : gI (sR st c i v) c' i' p' = gI st c' i' p' := rfl
theorem gI_cL (st : CwS) (c i p c2 i2 p2 n : Nat) (c' i' p' : Nat) : gI (cL st c i p c2 i2 p2 n) c' i' p' = gI st c' i' p' := rfl
theorem gL_sI (st : CwS) (c i p : Nat) (v : Int32) (c' i' p' : Nat) : gL (sI st c i p v) c' i' p' = gL st c' i' p' := rfl
theorem gL_sR (st : CwS) (c i v : Nat) (c' i' p' : Nat) : gL (sR st c i v) c' i' p' = gL st c' i' p' := rfl
theorem gR_sI (st : CwS) (c i p : Nat) (v : Int32) (c' i' : Nat) : gR (sI st c i p v) c' i' = gR st c' i' := rfl
theorem gR_sL (st : CwS) (c i p : Nat) (v : Int64) (c' i' : Nat) : gR (sL st c i p v) c' i' = gR st c' i' := rfl
theorem gR_cL (st : CwS) (c i p c2 i2 p2 n : Nat) (c' i' : Nat) : gR (cL st c i p c2 i2 p2 n) c' i' = gR st c' i' := rfl
-- answers that may fail
def ck {α : Type} (b : Bool) (x : Option α) : Option α := match b with
  | true => x
  | false => none
theorem ck_some {α : Type} {b : Bool} {x : Option α} {z : α} (h : ck b x = some z) : b = true ∧ x = some z := by
  cases b with
  | true => exact ⟨rfl, h⟩
  | false => cases h
def bR {α β S : Type} (x : Option (α × S)) (f : α → S → Option β) : Option β := match x with
  | none => none
  | some q => f q.1 q.2
def bV {β S : Type} (x : Option S) (f : S → Option β) : Option β := match x with
  | none => none
  | some q => f q
theorem bR_some {α β S : Type} {x : Option (α × S)} {f : α → S → Option β} {z : β} (h : bR x f = some z) : ∃ r t, x = some (r, t) ∧ f r t = some z := by
  cases x with
  | none => cases h
  | some q => exact ⟨q.1, q.2, rfl, h⟩
theorem bV_some {β S : Type} {x : Option S} {f : S → Option β} {z : β} (h : bV x f = some z) : ∃ t, x = some t ∧ f t = some z := by
  cases x with
  | none => cases h
  | some q => exact ⟨q, rfl, h⟩
theorem ite_t {α : Type} {c : Prop} [Decidable c] {a b x : α} (hc : c) (h : (if c then a else b) = x) : a = x := by rw [if_pos hc] at h; exact h
theorem ite_f {α : Type} {c : Prop} [Decidable c] {a b x : α} (hc : ¬ c) (h : (if c then a else b) = x) : b = x := by rw [if_neg hc] at h; exact h
theorem ret2 {α β : Type} {a c : α} {b d : β} (h : some (a, b) = some (c, d)) : a = c ∧ b = d := by cases h; exact ⟨rfl, rfl⟩
def ix (i : Int32) (n : Nat) : Bool := decide (0 ≤ i.toInt ∧ i.toInt < n)
theorem ix_in {i : Int32} {n : Nat} (h : ix i n = true) : vp_in i n := by
  have h := of_decide_eq_true h
  rintro (q | q)
  · have q1 := Int32.lt_iff_toInt_lt.mp q
    have q2 : (0 : Int32).toInt = 0 := rfl
    omega
  · have q3 : i.toNatClampNeg = i.toInt.toNat := rfl
    omega
theorem ix_lt {i : Int32} {n : Nat} (h : ix i n = true) : i.toNatClampNeg < n := by
  have h := of_decide_eq_true h
  have q3 : i.toNatClampNeg = i.toInt.toNat := rfl
  omega
theorem ck_lt {a b : Nat} (h : decide (a < b) = true) : a < b := of_decide_eq_true h
theorem ck_ne {P : Prop} [Decidable P] (h : (!(decide P)) = true) : ¬ P := by
  intro q
  rw [decide_eq_true q] at h
  cases h
-- a world as a function of the cell's number
def wd (ad : Nat → Nat) (N : Nat) (g : Nat → va_E) : va_W := (List.range N).map (fun k => (ad k, g k))
theorem wd_get {ad : Nat → Nat} {N : Nat} {g : Nat → va_E} {k : Nat} {e : va_E} (hk : k < N) (he : g k = e) : (wd ad N g)[k]? = some (ad k, e) := by
  subst he
  simp [wd, List.getElem?_range hk]
theorem wd_at {ad : Nat → Nat} {N : Nat} {g : Nat → va_E} {k : Nat} {q : Nat × va_E} (h : (wd ad N g)[k]? = some q) : k < N ∧ q = (ad k, g k) := by
  have hl := (List.getElem?_eq_some_iff.mp h).1
  have hk : k < N := by simpa [wd] using hl
  rw [wd_get hk rfl] at h
  exact ⟨hk, (Option.some.inj h).symm⟩
theorem wd_set {ad : Nat → Nat} {N : Nat} {g g2 : Nat → va_E} {k : Nat} (hk : k < N) (h : ∀ j, j < N → j ≠ k → g2 j = g j) : (wd ad N g).set k (ad k, g2 k) = wd ad N g2 := by
  apply List.ext_getElem?
  intro j
  by_cases hj : j = k
  · subst hj
    rw [List.getElem?_set_self (by simp [wd]; exact hk), wd_get hk rfl]
  · rw [List.getElem?_set_ne (Ne.symm hj)]
    by_cases hN : j < N
    · rw [wd_get hN rfl, wd_get hN rfl, h j hN hj]
    · rw [List.getElem?_eq_none (by simp [wd]; omega), List.getElem?_eq_none (by simp [wd]; omega)]
def wd_D (A : Nat → Prop) (ad : Nat → Nat) (N : Nat) : Prop := (∀ i j, i < N → j < N → ad i = ad j → i = j) ∧ ∀ k, k < N → A (ad k)
theorem wd_D.D {A : Nat → Prop} {ad : Nat → Nat} {N : Nat} (h : wd_D A ad N) (g : Nat → va_E) : va_D A (wd ad N g) := by
  refine ⟨fun i j p q hi hj hpq => ?_, fun k q hk => ?_⟩
  · obtain ⟨h1, e1⟩ := wd_at hi
    obtain ⟨h2, e2⟩ := wd_at hj
    subst e1; subst e2
    exact h.1 i j h1 h2 hpq
  · obtain ⟨h1, e1⟩ := wd_at hk
    subst e1
    exact h.2 k h1
theorem va_D.wd {A : Nat → Prop} {ad : Nat → Nat} {N : Nat} {g : Nat → va_E} (h : va_D A (wd ad N g)) : wd_D A ad N := ⟨fun i j hi hj e => h.1 i j _ _ (wd_get hi rfl) (wd_get hj rfl) e, fun k hk => h.2 k _ (wd_get hk rfl)⟩
def cw_kd (k : Nat) : Nat := if k < 4 then 0 + (k - 0) % 4 else if k < 148 then 4 + (k - 4) % 3 else if k < 154 then 7 + (k - 148) % 6 else if k < 164 then 13 + (k - 154) % 1 else if k < 165 then 14 + (k - 164) % 1 else if k < 175 then 15 + (k - 165) % 1 else if k < 179 then 16 + (k - 175) % 4 else 20 + (k - 179) % 9
def cw_kx (k : Nat) : Nat := if k < 4 then (k - 0) / 4 else if k < 148 then (k - 4) / 3 else if k < 154 then (k - 148) / 6 else if k < 164 then (k - 154) / 1 else if k < 165 then (k - 164) / 1 else if k < 175 then (k - 165) / 1 else if k < 179 then (k - 175) / 4 else (k - 179) / 9
def cw_of (n i : Nat) : Nat := if n < 4 then 0 + (n - 0) + 4 * i else if n < 7 then 4 + (n - 4) + 3 * i else if n < 13 then 148 + (n - 7) + 6 * i else if n < 14 then 154 + (n - 13) + 1 * i else if n < 15 then 164 + (n - 14) + 1 * i else if n < 16 then 165 + (n - 15) + 1 * i else if n < 20 then 175 + (n - 16) + 4 * i else 179 + (n - 20) + 9 * i
theorem cw_of_kd {k : Nat} (h : k < 269) : cw_of (cw_kd k) (cw_kx k) = k := by
  by_cases q0 : k < 4
  · have _u := q0
    have e1 : cw_kd k = 0 + (k - 0) % 4 := by unfold cw_kd; rw [if_pos q0]
    have e2 : cw_kx k = (k - 0) / 4 := by unfold cw_kx; rw [if_pos q0]
    have e3 : (k - 0) % 4 < 4 := Nat.mod_lt _ (by decide)
    unfold cw_of
    rw [e1, e2, if_pos (by omega)]
    omega
  by_cases q1 : k < 148
  · have _u := q1
    have e1 : cw_kd k = 4 + (k - 4) % 3 := by unfold cw_kd; rw [if_neg q0, if_pos q1]
    have e2 : cw_kx k = (k - 4) / 3 := by unfold cw_kx; rw [if_neg q0, if_pos q1]
    have e3 : (k - 4) % 3 < 3 := Nat.mod_lt _ (by decide)
    unfold cw_of
    rw [e1, e2, if_neg (by omega), if_pos (by omega)]
    omega
  by_cases q2 : k < 154
  · have _u := q2
    have e1 : cw_kd k = 7 + (k - 148) % 6 := by unfold cw_kd; rw [if_neg q0, if_neg q1, if_pos q2]
    have e2 : cw_kx k = (k - 148) / 6 := by unfold cw_kx; rw [if_neg q0, if_neg q1, if_pos q2]
    have e3 : (k - 148) % 6 < 6 := Nat.mod_lt _ (by decide)
    unfold cw_of
    rw [e1, e2, if_neg (by omega), if_neg (by omega), if_pos (by omega)]
    omega
  by_cases q3 : k < 164
  · have _u := q3
    have e1 : cw_kd k = 13 + (k - 154) % 1 := by unfold cw_kd; rw [if_neg q0, if_neg q1, if_neg q2, if_pos q3]
    have e2 : cw_kx k = (k - 154) / 1 := by unfold cw_kx; rw [if_neg q0, if_neg q1, if_neg q2, if_pos q3]
    have e3 : (k - 154) % 1 < 1 := Nat.mod_lt _ (by decide)
    unfold cw_of
    rw [e1, e2, if_neg (by omega), if_neg (by omega), if_neg (by omega), if_pos (by omega)]
    omega
  by_cases q4 : k < 165
  · have _u := q4
    have e1 : cw_kd k = 14 + (k - 164) % 1 := by unfold cw_kd; rw [if_neg q0, if_neg q1, if_neg q2, if_neg q3, if_pos q4]
    have e2 : cw_kx k = (k - 164) / 1 := by unfold cw_kx; rw [if_neg q0, if_neg q1, if_neg q2, if_neg q3, if_pos q4]
    have e3 : (k - 164) % 1 < 1 := Nat.mod_lt _ (by decide)
    unfold cw_of
    rw [e1, e2, if_neg (by omega), if_neg (by omega), if_neg (by omega), if_neg (by omega), if_pos (by omega)]
    omega
  by_cases q5 : k < 175
  · have _u := q5
    have e1 : cw_kd k = 15 + (k - 165) % 1 := by unfold cw_kd; rw [if_neg q0, if_neg q1, if_neg q2, if_neg q3, if_neg q4, if_pos q5]
    have e2 : cw_kx k = (k - 165) / 1 := by unfold cw_kx; rw [if_neg q0, if_neg q1, if_neg q2, if_neg q3, if_neg q4, if_pos q5]
    have e3 : (k - 165) % 1 < 1 := Nat.mod_lt _ (by decide)
    unfold cw_of
    rw [e1, e2, if_neg (by omega), if_neg (by omega), if_neg (by omega), if_neg (by omega), if_neg (by omega), if_pos (by omega)]
    omega
  by_cases q6 : k < 179
  · have _u := q6
    have e1 : cw_kd k = 16 + (k - 175) % 4 := by unfold cw_kd; rw [if_neg q0, if_neg q1, if_neg q2, if_neg q3, if_neg q4, if_neg q5, if_pos q6]
    have e2 : cw_kx k = (k - 175) / 4 := by unfold cw_kx; rw [if_neg q0, if_neg q1, if_neg q2, if_neg q3, if_neg q4, if_neg q5, if_pos q6]
    have e3 : (k - 175) % 4 < 4 := Nat.mod_lt _ (by decide)
    unfold cw_of
    rw [e1, e2, if_neg (by omega), if_neg (by omega), if_neg (by omega), if_neg (by omega), if_neg (by omega), if_neg (by omega), if_pos (by omega)]
    omega
  have e1 : cw_kd k = 20 + (k - 179) % 9 := by unfold cw_kd; rw [if_neg q0, if_neg q1, if_neg q2, if_neg q3, if_neg q4, if_neg q5, if_neg q6]
  have e2 : cw_kx k = (k - 179) / 9 := by unfold cw_kx; rw [if_neg q0, if_neg q1, if_neg q2, if_neg q3, if_neg q4, if_neg q5, if_neg q6]
  have e3 : (k - 179) % 9 < 9 := Nat.mod_lt _ (by decide)
  unfold cw_of
  rw [e1, e2, if_neg (by omega), if_neg (by omega), if_neg (by omega), if_neg (by omega), if_neg (by omega), if_neg (by omega), if_neg (by omega)]
  omega
theorem kd_CW : cw_kd (0) = 0 ∧ cw_kx (0) = 0 := by
  exact ⟨rfl, rfl⟩
theorem kd_Book : cw_kd (1) = 1 ∧ cw_kx (1) = 0 := by
  exact ⟨rfl, rfl⟩
theorem kd_BehArr : cw_kd (2) = 2 ∧ cw_kx (2) = 0 := by
  exact ⟨rfl, rfl⟩
theorem kd_Guard : cw_kd (3) = 3 ∧ cw_kx (3) = 0 := by
  exact ⟨rfl, rfl⟩
theorem kd_Beh {i : Nat} (hi : i < 48) : cw_kd (4 + 3 * i) = 4 ∧ cw_kx (4 + 3 * i) = i := by
  refine ⟨?_, ?_⟩
  · unfold cw_kd
    rw [if_neg (by omega), if_pos (by omega)]
    omega
  · unfold cw_kx
    rw [if_neg (by omega), if_pos (by omega)]
    omega
theorem kd_Codes {i : Nat} (hi : i < 48) : cw_kd (5 + 3 * i) = 5 ∧ cw_kx (5 + 3 * i) = i := by
  refine ⟨?_, ?_⟩
  · unfold cw_kd
    rw [if_neg (by omega), if_pos (by omega)]
    omega
  · unfold cw_kx
    rw [if_neg (by omega), if_pos (by omega)]
    omega
theorem kd_Nums {i : Nat} (hi : i < 48) : cw_kd (6 + 3 * i) = 6 ∧ cw_kx (6 + 3 * i) = i := by
  refine ⟨?_, ?_⟩
  · unfold cw_kd
    rw [if_neg (by omega), if_pos (by omega)]
    omega
  · unfold cw_kx
    rw [if_neg (by omega), if_pos (by omega)]
    omega
theorem kd_Ledger : cw_kd (148) = 7 ∧ cw_kx (148) = 0 := by
  exact ⟨rfl, rfl⟩
theorem kd_Leaves : cw_kd (149) = 8 ∧ cw_kx (149) = 0 := by
  exact ⟨rfl, rfl⟩
theorem kd_Bals : cw_kd (150) = 9 ∧ cw_kx (150) = 0 := by
  exact ⟨rfl, rfl⟩
theorem kd_EvC : cw_kd (151) = 10 ∧ cw_kx (151) = 0 := by
  exact ⟨rfl, rfl⟩
theorem kd_EvN : cw_kd (152) = 11 ∧ cw_kx (152) = 0 := by
  exact ⟨rfl, rfl⟩
theorem kd_KLo : cw_kd (153) = 12 ∧ cw_kx (153) = 0 := by
  exact ⟨rfl, rfl⟩
theorem kd_KL {i : Nat} (hi : i < 10) : cw_kd (154 + 1 * i) = 13 ∧ cw_kx (154 + 1 * i) = i := by
  refine ⟨?_, ?_⟩
  · unfold cw_kd
    rw [if_neg (by omega), if_neg (by omega), if_neg (by omega), if_pos (by omega)]
    omega
  · unfold cw_kx
    rw [if_neg (by omega), if_neg (by omega), if_neg (by omega), if_pos (by omega)]
    omega
theorem kd_KBo : cw_kd (164) = 14 ∧ cw_kx (164) = 0 := by
  exact ⟨rfl, rfl⟩
theorem kd_KB {i : Nat} (hi : i < 10) : cw_kd (165 + 1 * i) = 15 ∧ cw_kx (165 + 1 * i) = i := by
  refine ⟨?_, ?_⟩
  · unfold cw_kd
    rw [if_neg (by omega), if_neg (by omega), if_neg (by omega), if_neg (by omega), if_neg (by omega), if_pos (by omega)]
    omega
  · unfold cw_kx
    rw [if_neg (by omega), if_neg (by omega), if_neg (by omega), if_neg (by omega), if_neg (by omega), if_pos (by omega)]
    omega
theorem kd_KC : cw_kd (175) = 16 ∧ cw_kx (175) = 0 := by
  exact ⟨rfl, rfl⟩
theorem kd_Walk : cw_kd (176) = 17 ∧ cw_kx (176) = 0 := by
  exact ⟨rfl, rfl⟩
theorem kd_FrArr : cw_kd (177) = 18 ∧ cw_kx (177) = 0 := by
  exact ⟨rfl, rfl⟩
theorem kd_Counts : cw_kd (178) = 19 ∧ cw_kx (178) = 0 := by
  exact ⟨rfl, rfl⟩
theorem kd_Frame {i : Nat} (hi : i < 10) : cw_kd (179 + 9 * i) = 20 ∧ cw_kx (179 + 9 * i) = i := by
  refine ⟨?_, ?_⟩
  · unfold cw_kd
    rw [if_neg (by omega), if_neg (by omega), if_neg (by omega), if_neg (by omega), if_neg (by omega), if_neg (by omega), if_neg (by omega)]
    omega
  · unfold cw_kx
    rw [if_neg (by omega), if_neg (by omega), if_neg (by omega), if_neg (by omega), if_neg (by omega), if_neg (by omega), if_neg (by omega)]
    omega
theorem kd_HSteps {i : Nat} (hi : i < 10) : cw_kd (180 + 9 * i) = 21 ∧ cw_kx (180 + 9 * i) = i := by
  refine ⟨?_, ?_⟩
  · unfold cw_kd
    rw [if_neg (by omega), if_neg (by omega), if_neg (by omega), if_neg (by omega), if_neg (by omega), if_neg (by omega), if_neg (by omega)]
    omega
  · unfold cw_kx
    rw [if_neg (by omega), if_neg (by omega), if_neg (by omega), if_neg (by omega), if_neg (by omega), if_neg (by omega), if_neg (by omega)]
    omega
theorem kd_HHeights {i : Nat} (hi : i < 10) : cw_kd (181 + 9 * i) = 22 ∧ cw_kx (181 + 9 * i) = i := by
  refine ⟨?_, ?_⟩
  · unfold cw_kd
    rw [if_neg (by omega), if_neg (by omega), if_neg (by omega), if_neg (by omega), if_neg (by omega), if_neg (by omega), if_neg (by omega)]
    omega
  · unfold cw_kx
    rw [if_neg (by omega), if_neg (by omega), if_neg (by omega), if_neg (by omega), if_neg (by omega), if_neg (by omega), if_neg (by omega)]
    omega
theorem kd_Pile {i : Nat} (hi : i < 10) : cw_kd (182 + 9 * i) = 23 ∧ cw_kx (182 + 9 * i) = i := by
  refine ⟨?_, ?_⟩
  · unfold cw_kd
    rw [if_neg (by omega), if_neg (by omega), if_neg (by omega), if_neg (by omega), if_neg (by omega), if_neg (by omega), if_neg (by omega)]
    omega
  · unfold cw_kx
    rw [if_neg (by omega), if_neg (by omega), if_neg (by omega), if_neg (by omega), if_neg (by omega), if_neg (by omega), if_neg (by omega)]
    omega
theorem kd_PKinds {i : Nat} (hi : i < 10) : cw_kd (183 + 9 * i) = 24 ∧ cw_kx (183 + 9 * i) = i := by
  refine ⟨?_, ?_⟩
  · unfold cw_kd
    rw [if_neg (by omega), if_neg (by omega), if_neg (by omega), if_neg (by omega), if_neg (by omega), if_neg (by omega), if_neg (by omega)]
    omega
  · unfold cw_kx
    rw [if_neg (by omega), if_neg (by omega), if_neg (by omega), if_neg (by omega), if_neg (by omega), if_neg (by omega), if_neg (by omega)]
    omega
theorem kd_PNums {i : Nat} (hi : i < 10) : cw_kd (184 + 9 * i) = 25 ∧ cw_kx (184 + 9 * i) = i := by
  refine ⟨?_, ?_⟩
  · unfold cw_kd
    rw [if_neg (by omega), if_neg (by omega), if_neg (by omega), if_neg (by omega), if_neg (by omega), if_neg (by omega), if_neg (by omega)]
    omega
  · unfold cw_kx
    rw [if_neg (by omega), if_neg (by omega), if_neg (by omega), if_neg (by omega), if_neg (by omega), if_neg (by omega), if_neg (by omega)]
    omega
theorem kd_Rows {i : Nat} (hi : i < 10) : cw_kd (185 + 9 * i) = 26 ∧ cw_kx (185 + 9 * i) = i := by
  refine ⟨?_, ?_⟩
  · unfold cw_kd
    rw [if_neg (by omega), if_neg (by omega), if_neg (by omega), if_neg (by omega), if_neg (by omega), if_neg (by omega), if_neg (by omega)]
    omega
  · unfold cw_kx
    rw [if_neg (by omega), if_neg (by omega), if_neg (by omega), if_neg (by omega), if_neg (by omega), if_neg (by omega), if_neg (by omega)]
    omega
theorem kd_Elems {i : Nat} (hi : i < 10) : cw_kd (186 + 9 * i) = 27 ∧ cw_kx (186 + 9 * i) = i := by
  refine ⟨?_, ?_⟩
  · unfold cw_kd
    rw [if_neg (by omega), if_neg (by omega), if_neg (by omega), if_neg (by omega), if_neg (by omega), if_neg (by omega), if_neg (by omega)]
    omega
  · unfold cw_kx
    rw [if_neg (by omega), if_neg (by omega), if_neg (by omega), if_neg (by omega), if_neg (by omega), if_neg (by omega), if_neg (by omega)]
    omega
theorem kd_Lens {i : Nat} (hi : i < 10) : cw_kd (187 + 9 * i) = 28 ∧ cw_kx (187 + 9 * i) = i := by
  refine ⟨?_, ?_⟩
  · unfold cw_kd
    rw [if_neg (by omega), if_neg (by omega), if_neg (by omega), if_neg (by omega), if_neg (by omega), if_neg (by omega), if_neg (by omega)]
    omega
  · unfold cw_kx
    rw [if_neg (by omega), if_neg (by omega), if_neg (by omega), if_neg (by omega), if_neg (by omega), if_neg (by omega), if_neg (by omega)]
    omega
def cwk (ad : Nat → Nat) (cA : Nat → ClassId) (st : CwS) (n i : Nat) : va_E := match n with
  | 0 => .inr (7, [.ref (ad (1)), .ref (ad (148)), .ref (ad (176))])
  | 1 => .inr (1, [.ref (ad (2)), .ref (ad (3))])
  | 2 => .inl (cA 3, 48, .inr (.inr (.inr (.inr (fun j => some (ad (4 + 3 * j)))))))
  | 3 => .inl (cA 2, 8, .inl (gI st 3 i))
  | 4 => .inr (0, [.ref (ad (5 + 3 * i)), .ref (ad (6 + 3 * i)), .int (gI st 2 i 0)])
  | 5 => .inl (cA 0, 24, .inl (gI st 0 i))
  | 6 => .inl (cA 0, 24, .inl (gI st 1 i))
  | 7 => .inr (3, [.ref (ad (149)), .ref (ad (150)), .ref (ad (151)), .ref (ad (152)), .int (gI st 5 i 0), .ref (ad (153)), .ref (ad (164)), .ref (ad (175))])
  | 8 => .inl (cA 1, 64, .inr (.inl (gL st 0 i)))
  | 9 => .inl (cA 1, 8, .inr (.inl (gL st 1 i)))
  | 10 => .inl (cA 0, 40, .inl (gI st 4 i))
  | 11 => .inl (cA 1, 40, .inr (.inl (gL st 2 i)))
  | 12 => .inl (cA 5, 10, .inr (.inr (.inr (.inr (fun j => some (ad (154 + 1 * j)))))))
  | 13 => .inl (cA 1, 64, .inr (.inl (gL st 3 i)))
  | 14 => .inl (cA 5, 10, .inr (.inr (.inr (.inr (fun j => some (ad (165 + 1 * j)))))))
  | 15 => .inl (cA 1, 8, .inr (.inl (gL st 4 i)))
  | 16 => .inl (cA 0, 10, .inl (gI st 6 i))
  | 17 => .inr (6, [.ref (ad (1)), .ref (ad (148)), .ref (ad (177)), .ref (ad (178)), .int (gI st 8 i 0), .int (gI st 9 i 0), .long (gL st 5 i 0)])
  | 18 => .inl (cA 4, 10, .inr (.inr (.inr (.inr (fun j => some (ad (179 + 9 * j)))))))
  | 19 => .inl (cA 0, 5, .inl (gI st 7 i))
  | 20 => .inr (2, [.ref (ad (182 + 9 * i)), .ref (ad (185 + 9 * i)), .ref (ad (180 + 9 * i)), .ref (ad (181 + 9 * i)), .int (gI st 12 i 0), .ref (ad (4 + 3 * gR st 0 i)), .int (gI st 13 i 0), .int (gI st 14 i 0), .int (gI st 15 i 0), .int (gI st 16 i 0)])
  | 21 => .inl (cA 0, 4, .inl (gI st 10 i))
  | 22 => .inl (cA 0, 4, .inl (gI st 11 i))
  | 23 => .inr (4, [.ref (ad (183 + 9 * i)), .ref (ad (184 + 9 * i)), .int (gI st 18 i 0), .int (gI st 19 i 0)])
  | 24 => .inl (cA 0, 12, .inl (gI st 17 i))
  | 25 => .inl (cA 1, 12, .inr (.inl (gL st 6 i)))
  | 26 => .inr (5, [.ref (ad (182 + 9 * i)), .ref (ad (186 + 9 * i)), .ref (ad (187 + 9 * i))])
  | 27 => .inl (cA 1, 192, .inr (.inl (gL st 7 i)))
  | 28 => .inl (cA 0, 12, .inl (gI st 20 i))
  | _ => .inr (0, [])
def cwc (ad : Nat → Nat) (cA : Nat → ClassId) (st : CwS) (k : Nat) : va_E := cwk ad cA st (cw_kd k) (cw_kx k)
def ownI (c : Nat) : Nat := match c with
  | 0 => 5
  | 1 => 6
  | 2 => 4
  | 3 => 3
  | 4 => 10
  | 5 => 7
  | 6 => 16
  | 7 => 19
  | 8 => 17
  | 9 => 17
  | 10 => 21
  | 11 => 22
  | 12 => 20
  | 13 => 20
  | 14 => 20
  | 15 => 20
  | 16 => 20
  | 17 => 24
  | 18 => 23
  | 19 => 23
  | 20 => 28
  | _ => 1000
def ownL (c : Nat) : Nat := match c with
  | 0 => 8
  | 1 => 9
  | 2 => 11
  | 3 => 13
  | 4 => 15
  | 5 => 17
  | 6 => 25
  | 7 => 27
  | _ => 1000
def ownR (c : Nat) : Nat := match c with
  | 0 => 20
  | _ => 1000
theorem cwk_congr {ad : Nat → Nat} {cA : Nat → ClassId} {st st2 : CwS} (n j : Nat) (hI : ∀ c q, ownI c = n → gI st2 c j q = gI st c j q) (hL : ∀ c q, ownL c = n → gL st2 c j q = gL st c j q) (hR : ∀ c, ownR c = n → gR st2 c j = gR st c j) : cwk ad cA st2 n j = cwk ad cA st n j := by
  match n, hI, hL, hR with
  | 0, _, _, _ => exact rfl
  | 1, _, _, _ => exact rfl
  | 2, _, _, _ => exact rfl
  | 3, hI, _, _ => exact by simp only [cwk, show gI st2 3 j = gI st 3 j from funext fun q => hI 3 q rfl]
  | 4, hI, _, _ => exact by simp only [cwk, hI 2 0 rfl]
  | 5, hI, _, _ => exact by simp only [cwk, show gI st2 0 j = gI st 0 j from funext fun q => hI 0 q rfl]
  | 6, hI, _, _ => exact by simp only [cwk, show gI st2 1 j = gI st 1 j from funext fun q => hI 1 q rfl]
  | 7, hI, _, _ => exact by simp only [cwk, hI 5 0 rfl]
  | 8, _, hL, _ => exact by simp only [cwk, show gL st2 0 j = gL st 0 j from funext fun q => hL 0 q rfl]
  | 9, _, hL, _ => exact by simp only [cwk, show gL st2 1 j = gL st 1 j from funext fun q => hL 1 q rfl]
  | 10, hI, _, _ => exact by simp only [cwk, show gI st2 4 j = gI st 4 j from funext fun q => hI 4 q rfl]
  | 11, _, hL, _ => exact by simp only [cwk, show gL st2 2 j = gL st 2 j from funext fun q => hL 2 q rfl]
  | 12, _, _, _ => exact rfl
  | 13, _, hL, _ => exact by simp only [cwk, show gL st2 3 j = gL st 3 j from funext fun q => hL 3 q rfl]
  | 14, _, _, _ => exact rfl
  | 15, _, hL, _ => exact by simp only [cwk, show gL st2 4 j = gL st 4 j from funext fun q => hL 4 q rfl]
  | 16, hI, _, _ => exact by simp only [cwk, show gI st2 6 j = gI st 6 j from funext fun q => hI 6 q rfl]
  | 17, hI, hL, _ => exact by simp only [cwk, hI 8 0 rfl, hI 9 0 rfl, hL 5 0 rfl]
  | 18, _, _, _ => exact rfl
  | 19, hI, _, _ => exact by simp only [cwk, show gI st2 7 j = gI st 7 j from funext fun q => hI 7 q rfl]
  | 20, hI, _, hR => exact by simp only [cwk, hI 12 0 rfl, hR 0 rfl, hI 13 0 rfl, hI 14 0 rfl, hI 15 0 rfl, hI 16 0 rfl]
  | 21, hI, _, _ => exact by simp only [cwk, show gI st2 10 j = gI st 10 j from funext fun q => hI 10 q rfl]
  | 22, hI, _, _ => exact by simp only [cwk, show gI st2 11 j = gI st 11 j from funext fun q => hI 11 q rfl]
  | 23, hI, _, _ => exact by simp only [cwk, hI 18 0 rfl, hI 19 0 rfl]
  | 24, hI, _, _ => exact by simp only [cwk, show gI st2 17 j = gI st 17 j from funext fun q => hI 17 q rfl]
  | 25, _, hL, _ => exact by simp only [cwk, show gL st2 6 j = gL st 6 j from funext fun q => hL 6 q rfl]
  | 26, _, _, _ => exact rfl
  | 27, _, hL, _ => exact by simp only [cwk, show gL st2 7 j = gL st 7 j from funext fun q => hL 7 q rfl]
  | 28, hI, _, _ => exact by simp only [cwk, show gI st2 20 j = gI st 20 j from funext fun q => hI 20 q rfl]
  | n + 29, _, _, _ => exact rfl
theorem cwc_sI {ad : Nat → Nat} {cA : Nat → ClassId} {st : CwS} {k c i p : Nat} {v : Int32} (hk : k < 269) (hne : k ≠ cw_of (ownI c) i) : cwc ad cA (sI st c i p v) k = cwc ad cA st k := by
  refine cwk_congr _ _ (fun c' q hc => ?_) (fun _ _ _ => rfl) (fun _ _ => rfl)
  rw [gI_sI, if_neg]
  rintro ⟨rfl, e, -⟩
  exact hne (by rw [hc, ← e, cw_of_kd hk])
theorem cwc_sL {ad : Nat → Nat} {cA : Nat → ClassId} {st : CwS} {k c i p : Nat} {v : Int64} (hk : k < 269) (hne : k ≠ cw_of (ownL c) i) : cwc ad cA (sL st c i p v) k = cwc ad cA st k := by
  refine cwk_congr _ _ (fun _ _ _ => rfl) (fun c' q hc => ?_) (fun _ _ => rfl)
  rw [gL_sL, if_neg]
  rintro ⟨rfl, e, -⟩
  exact hne (by rw [hc, ← e, cw_of_kd hk])
theorem cwc_cL {ad : Nat → Nat} {cA : Nat → ClassId} {st : CwS} {k c i p c2 i2 p2 n : Nat} (hk : k < 269) (hne : k ≠ cw_of (ownL c2) i2) : cwc ad cA (cL st c i p c2 i2 p2 n) k = cwc ad cA st k := by
  refine cwk_congr _ _ (fun _ _ _ => rfl) (fun c' q hc => ?_) (fun _ _ => rfl)
  rw [gL_cL, if_neg]
  rintro ⟨rfl, e, -⟩
  exact hne (by rw [hc, ← e, cw_of_kd hk])
theorem cwc_sR {ad : Nat → Nat} {cA : Nat → ClassId} {st : CwS} {k c i v : Nat} (hk : k < 269) (hne : k ≠ cw_of (ownR c) i) : cwc ad cA (sR st c i v) k = cwc ad cA st k := by
  refine cwk_congr _ _ (fun _ _ _ => rfl) (fun _ _ _ => rfl) (fun c' hc => ?_)
  rw [gR_sR, if_neg]
  rintro ⟨rfl, e⟩
  exact hne (by rw [hc, ← e, cw_of_kd hk])
theorem cw_put {ad : Nat → Nat} {cA : Nat → ClassId} {st st2 : CwS} {k : Nat} {e : va_E} (hk : k < 269) (he : cwc ad cA st2 k = e) (hne : ∀ j, j < 269 → j ≠ k → cwc ad cA st2 j = cwc ad cA st j) : (wd ad 269 (cwc ad cA st)).set k (ad k, e) = wd ad 269 (cwc ad cA st2) := by
  subst he
  exact wd_set hk hne
theorem cw_updI {st : CwS} {c i p : Nat} {v : Int32} : gI (sI st c i p v) c i = upd (gI st c i) p v := by
  funext j
  by_cases h : j = p <;> simp [gI_sI, upd, h]
theorem cw_updL {st : CwS} {c i p : Nat} {v : Int64} : gL (sL st c i p v) c i = vp_updL (gL st c i) p v := by
  funext j
  by_cases h : j = p <;> simp [gL_sL, vp_updL, h]
theorem cw_cpyL {st : CwS} {c i p c2 i2 p2 n : Nat} : gL (cL st c i p c2 i2 p2 n) c2 i2 = va_cpy (gL st c i) (gL st c2 i2) p p2 n := by
  funext j
  simp [gL, cL]
theorem cc_CW {ad : Nat → Nat} {cA : Nat → ClassId} {st : CwS} : cwc ad cA st (0) = .inr (7, [.ref (ad (1)), .ref (ad (148)), .ref (ad (176))]) := by
  unfold cwc
  rw [(kd_CW).1, (kd_CW).2]
  rfl
theorem cc_Book {ad : Nat → Nat} {cA : Nat → ClassId} {st : CwS} : cwc ad cA st (1) = .inr (1, [.ref (ad (2)), .ref (ad (3))]) := by
  unfold cwc
  rw [(kd_Book).1, (kd_Book).2]
  rfl
theorem cc_BehArr {ad : Nat → Nat} {cA : Nat → ClassId} {st : CwS} : cwc ad cA st (2) = .inl (cA 3, 48, .inr (.inr (.inr (.inr (fun j => some (ad (4 + 3 * j))))))) := by
  unfold cwc
  rw [(kd_BehArr).1, (kd_BehArr).2]
  rfl
theorem cc_Guard {ad : Nat → Nat} {cA : Nat → ClassId} {st : CwS} : cwc ad cA st (3) = .inl (cA 2, 8, .inl (gI st 3 0)) := by
  unfold cwc
  rw [(kd_Guard).1, (kd_Guard).2]
  rfl
theorem cc_Beh {ad : Nat → Nat} {cA : Nat → ClassId} {st : CwS} {i : Nat} (hi : i < 48) : cwc ad cA st (4 + 3 * i) = .inr (0, [.ref (ad (5 + 3 * i)), .ref (ad (6 + 3 * i)), .int (gI st 2 i 0)]) := by
  unfold cwc
  rw [(kd_Beh hi).1, (kd_Beh hi).2]
  rfl
theorem cc_Codes {ad : Nat → Nat} {cA : Nat → ClassId} {st : CwS} {i : Nat} (hi : i < 48) : cwc ad cA st (5 + 3 * i) = .inl (cA 0, 24, .inl (gI st 0 i)) := by
  unfold cwc
  rw [(kd_Codes hi).1, (kd_Codes hi).2]
  rfl
theorem cc_Nums {ad : Nat → Nat} {cA : Nat → ClassId} {st : CwS} {i : Nat} (hi : i < 48) : cwc ad cA st (6 + 3 * i) = .inl (cA 0, 24, .inl (gI st 1 i)) := by
  unfold cwc
  rw [(kd_Nums hi).1, (kd_Nums hi).2]
  rfl
theorem cc_Ledger {ad : Nat → Nat} {cA : Nat → ClassId} {st : CwS} : cwc ad cA st (148) = .inr (3, [.ref (ad (149)), .ref (ad (150)), .ref (ad (151)), .ref (ad (152)), .int (gI st 5 0 0), .ref (ad (153)), .ref (ad (164)), .ref (ad (175))]) := by
  unfold cwc
  rw [(kd_Ledger).1, (kd_Ledger).2]
  rfl
theorem cc_Leaves {ad : Nat → Nat} {cA : Nat → ClassId} {st : CwS} : cwc ad cA st (149) = .inl (cA 1, 64, .inr (.inl (gL st 0 0))) := by
  unfold cwc
  rw [(kd_Leaves).1, (kd_Leaves).2]
  rfl
theorem cc_Bals {ad : Nat → Nat} {cA : Nat → ClassId} {st : CwS} : cwc ad cA st (150) = .inl (cA 1, 8, .inr (.inl (gL st 1 0))) := by
  unfold cwc
  rw [(kd_Bals).1, (kd_Bals).2]
  rfl
theorem cc_EvC {ad : Nat → Nat} {cA : Nat → ClassId} {st : CwS} : cwc ad cA st (151) = .inl (cA 0, 40, .inl (gI st 4 0)) := by
  unfold cwc
  rw [(kd_EvC).1, (kd_EvC).2]
  rfl
theorem cc_EvN {ad : Nat → Nat} {cA : Nat → ClassId} {st : CwS} : cwc ad cA st (152) = .inl (cA 1, 40, .inr (.inl (gL st 2 0))) := by
  unfold cwc
  rw [(kd_EvN).1, (kd_EvN).2]
  rfl
theorem cc_KLo {ad : Nat → Nat} {cA : Nat → ClassId} {st : CwS} : cwc ad cA st (153) = .inl (cA 5, 10, .inr (.inr (.inr (.inr (fun j => some (ad (154 + 1 * j))))))) := by
  unfold cwc
  rw [(kd_KLo).1, (kd_KLo).2]
  rfl
theorem cc_KL {ad : Nat → Nat} {cA : Nat → ClassId} {st : CwS} {i : Nat} (hi : i < 10) : cwc ad cA st (154 + 1 * i) = .inl (cA 1, 64, .inr (.inl (gL st 3 i))) := by
  unfold cwc
  rw [(kd_KL hi).1, (kd_KL hi).2]
  rfl
theorem cc_KBo {ad : Nat → Nat} {cA : Nat → ClassId} {st : CwS} : cwc ad cA st (164) = .inl (cA 5, 10, .inr (.inr (.inr (.inr (fun j => some (ad (165 + 1 * j))))))) := by
  unfold cwc
  rw [(kd_KBo).1, (kd_KBo).2]
  rfl
theorem cc_KB {ad : Nat → Nat} {cA : Nat → ClassId} {st : CwS} {i : Nat} (hi : i < 10) : cwc ad cA st (165 + 1 * i) = .inl (cA 1, 8, .inr (.inl (gL st 4 i))) := by
  unfold cwc
  rw [(kd_KB hi).1, (kd_KB hi).2]
  rfl
theorem cc_KC {ad : Nat → Nat} {cA : Nat → ClassId} {st : CwS} : cwc ad cA st (175) = .inl (cA 0, 10, .inl (gI st 6 0)) := by
  unfold cwc
  rw [(kd_KC).1, (kd_KC).2]
  rfl
theorem cc_Walk {ad : Nat → Nat} {cA : Nat → ClassId} {st : CwS} : cwc ad cA st (176) = .inr (6, [.ref (ad (1)), .ref (ad (148)), .ref (ad (177)), .ref (ad (178)), .int (gI st 8 0 0), .int (gI st 9 0 0), .long (gL st 5 0 0)]) := by
  unfold cwc
  rw [(kd_Walk).1, (kd_Walk).2]
  rfl
theorem cc_FrArr {ad : Nat → Nat} {cA : Nat → ClassId} {st : CwS} : cwc ad cA st (177) = .inl (cA 4, 10, .inr (.inr (.inr (.inr (fun j => some (ad (179 + 9 * j))))))) := by
  unfold cwc
  rw [(kd_FrArr).1, (kd_FrArr).2]
  rfl
theorem cc_Counts {ad : Nat → Nat} {cA : Nat → ClassId} {st : CwS} : cwc ad cA st (178) = .inl (cA 0, 5, .inl (gI st 7 0)) := by
  unfold cwc
  rw [(kd_Counts).1, (kd_Counts).2]
  rfl
theorem cc_Frame {ad : Nat → Nat} {cA : Nat → ClassId} {st : CwS} {i : Nat} (hi : i < 10) : cwc ad cA st (179 + 9 * i) = .inr (2, [.ref (ad (182 + 9 * i)), .ref (ad (185 + 9 * i)), .ref (ad (180 + 9 * i)), .ref (ad (181 + 9 * i)), .int (gI st 12 i 0), .ref (ad (4 + 3 * gR st 0 i)), .int (gI st 13 i 0), .int (gI st 14 i 0), .int (gI st 15 i 0), .int (gI st 16 i 0)]) := by
  unfold cwc
  rw [(kd_Frame hi).1, (kd_Frame hi).2]
  rfl
theorem cc_HSteps {ad : Nat → Nat} {cA : Nat → ClassId} {st : CwS} {i : Nat} (hi : i < 10) : cwc ad cA st (180 + 9 * i) = .inl (cA 0, 4, .inl (gI st 10 i)) := by
  unfold cwc
  rw [(kd_HSteps hi).1, (kd_HSteps hi).2]
  rfl
theorem cc_HHeights {ad : Nat → Nat} {cA : Nat → ClassId} {st : CwS} {i : Nat} (hi : i < 10) : cwc ad cA st (181 + 9 * i) = .inl (cA 0, 4, .inl (gI st 11 i)) := by
  unfold cwc
  rw [(kd_HHeights hi).1, (kd_HHeights hi).2]
  rfl
theorem cc_Pile {ad : Nat → Nat} {cA : Nat → ClassId} {st : CwS} {i : Nat} (hi : i < 10) : cwc ad cA st (182 + 9 * i) = .inr (4, [.ref (ad (183 + 9 * i)), .ref (ad (184 + 9 * i)), .int (gI st 18 i 0), .int (gI st 19 i 0)]) := by
  unfold cwc
  rw [(kd_Pile hi).1, (kd_Pile hi).2]
  rfl
theorem cc_PKinds {ad : Nat → Nat} {cA : Nat → ClassId} {st : CwS} {i : Nat} (hi : i < 10) : cwc ad cA st (183 + 9 * i) = .inl (cA 0, 12, .inl (gI st 17 i)) := by
  unfold cwc
  rw [(kd_PKinds hi).1, (kd_PKinds hi).2]
  rfl
theorem cc_PNums {ad : Nat → Nat} {cA : Nat → ClassId} {st : CwS} {i : Nat} (hi : i < 10) : cwc ad cA st (184 + 9 * i) = .inl (cA 1, 12, .inr (.inl (gL st 6 i))) := by
  unfold cwc
  rw [(kd_PNums hi).1, (kd_PNums hi).2]
  rfl
theorem cc_Rows {ad : Nat → Nat} {cA : Nat → ClassId} {st : CwS} {i : Nat} (hi : i < 10) : cwc ad cA st (185 + 9 * i) = .inr (5, [.ref (ad (182 + 9 * i)), .ref (ad (186 + 9 * i)), .ref (ad (187 + 9 * i))]) := by
  unfold cwc
  rw [(kd_Rows hi).1, (kd_Rows hi).2]
  rfl
theorem cc_Elems {ad : Nat → Nat} {cA : Nat → ClassId} {st : CwS} {i : Nat} (hi : i < 10) : cwc ad cA st (186 + 9 * i) = .inl (cA 1, 192, .inr (.inl (gL st 7 i))) := by
  unfold cwc
  rw [(kd_Elems hi).1, (kd_Elems hi).2]
  rfl
theorem cc_Lens {ad : Nat → Nat} {cA : Nat → ClassId} {st : CwS} {i : Nat} (hi : i < 10) : cwc ad cA st (187 + 9 * i) = .inl (cA 0, 12, .inl (gI st 20 i)) := by
  unfold cwc
  rw [(kd_Lens hi).1, (kd_Lens hi).2]
  rfl
def tkTl : List Int32 := [0, 0, 1, 1, 1, 2, 2, 2, 2, 2, 2, 2, 2, 0, 1, 1, 1, 2, 2, 3, 3, 1, 0, 5, 0, 0, 0, 1, 1, 3, 0, 0]
def tkMl : List Int32 := [1, 1, 0, 2, 0, 2, 1, 1, 1, 1, 1, 1, 1, 0, 0, 1, 1, 1, 1, 0, 0, 1, 1, 0, 0, 0, 0, 0, 0, 1, 1, 1]
def tkT (j : Nat) : Int32 := tkTl.getD j 0
def tkM (j : Nat) : Int32 := tkMl.getD j 0
def cwTy (cA : Nat → ClassId) : List (ClassId × FieldType) := [(cA 0, .int), (cA 1, .long), (cA 2, .boolean), (cA 3, .object "CallWalker$Behaviour"), (cA 4, .object "CallWalker$Frame"), (cA 5, .array .long)]
def cwT (A : Nat → Prop) (tb0 tb1 : Nat) (U : State) (H : Heap) : Prop := va_Z "CallWalker" "TAKES" "[I" (.ref tb0) A U H ∧ va_T .int tb0 32 (fun j => .int (tkT j)) A U H ∧ va_Z "CallWalker" "MAKES" "[I" (.ref tb1) A U H ∧ va_T .int tb1 32 (fun j => .int (tkM j)) A U H
/-- the links between nest mates -/
def cwN (U : State) : Prop := va_Nw (.methodLinkNest RX6 224 yX7_isLeaf "CallWalker") U ∧ va_Nw (.methodLinkNest RX6 240 yX7_sumFits "CallWalker") U ∧ va_Nw (.methodLinkNest RX6 244 yX7_differenceFits "CallWalker") U ∧ va_Nw (.methodLinkNest RX6 247 yX7_productFits "CallWalker") U ∧ va_Nw (.methodLinkNest RX6 275 yX7_isBehaviour "CallWalker") U ∧ va_Nw (.fieldLinkNest RX6 134 "CallWalker" "TAKES" "[I" "CallWalker") U ∧ va_Nw (.fieldLinkNest RX6 137 "CallWalker" "MAKES" "[I" "CallWalker") U
theorem cwN.warm {s U : State} (h : cwN s) (hW : s.WarmedH U.vm) : cwN U := ⟨va_Nw.warmM hW h.1, va_Nw.warmM hW h.2.1, va_Nw.warmM hW h.2.2.1, va_Nw.warmM hW h.2.2.2.1, va_Nw.warmM hW h.2.2.2.2.1, va_Nw.warmF hW h.2.2.2.2.2.1, va_Nw.warmF hW h.2.2.2.2.2.2⟩
theorem cwN.same {s U : State} (h : cwN s) (hv : s.vm = U.vm) : cwN U := ⟨va_Nw.same rfl hv h.1, va_Nw.same rfl hv h.2.1, va_Nw.same rfl hv h.2.2.1, va_Nw.same rfl hv h.2.2.2.1, va_Nw.same rfl hv h.2.2.2.2.1, va_Nw.same rfl hv h.2.2.2.2.2.1, va_Nw.same rfl hv h.2.2.2.2.2.2⟩
def cwK (D : va_G) (A : Nat → Prop) (ad : Nat → Nat) (cA : Nat → ClassId) (tb0 tb1 : Nat) (U : State) : Prop := va_K D vwCl (cwTy cA) U ∧ wd_D A ad 269 ∧ cwT A tb0 tb1 U U.heap ∧ cwN U
def cwO (D : va_G) (A : Nat → Prop) (ad : Nat → Nat) (cA : Nat → ClassId) (s : State) (st : CwS) (H : Heap) (locs : List Loc) : Prop := va_P D vwCl (wd ad 269 (cwc ad cA st)) H ∧ va_S A s.heap H locs
def cwU (D : va_G) (A : Nat → Prop) (ad : Nat → Nat) (cA : Nat → ClassId) (tb0 tb1 : Nat) (st : CwS) (U : State) : Prop := va_P D vwCl (wd ad 269 (cwc ad cA st)) U.heap ∧ cwK D A ad cA tb0 tb1 U
theorem cwT.moved {A : Nat → Prop} {tb0 tb1 : Nat} {u U : State} {H H1 : Heap} (h : cwT A tb0 tb1 u H) (hvm : u.vm.Alike U.vm) (hq : ∀ a : Nat, a < H.size → ¬ A a → H1[a]? = H[a]?) : cwT A tb0 tb1 U H1 :=
  ⟨(h.1.kept hq).moved hvm, (h.2.1.kept hq).moved hvm, (h.2.2.1.kept hq).moved hvm, (h.2.2.2.kept hq).moved hvm⟩
theorem cwK.at {D : va_G} {A : Nat → Prop} {ad : Nat → Nat} {cA : Nat → ClassId} {tb0 tb1 : Nat} {s U : State} {H : Heap} {locs : List Loc} (h : cwK D A ad cA tb0 tb1 s) (hS : va_S A s.heap H locs) (hU : U.heap = H) (hW : s.WarmedH U.vm) : cwK D A ad cA tb0 tb1 U :=
  ⟨va_K.moved hW.alike h.1, h.2.1, h.2.2.1.moved hW.alike (fun a h1 h2 => by rw [hU]; exact hS.2.1 a h1 h2), h.2.2.2.warm hW⟩
theorem cwU_blind {D : va_G} {A : Nat → Prop} {ad : Nat → Nat} {cA : Nat → ClassId} {tb0 tb1 : Nat} {st : CwS} {av : List Value} : FrameBlind (va_Pc av (cwU D A ad cA tb0 tb1 st)) := fun a U g mk q => ⟨q.1, q.2.1, va_K.moved (u := U) (U := U.calling g mk a) (Vm.Alike.refl U.vm) q.2.2.1, q.2.2.2.1, q.2.2.2.2.1.moved (u := U) (U := U.calling g mk a) (Vm.Alike.refl U.vm) (fun _ _ _ => rfl), q.2.2.2.2.2.same (U := U.calling g mk a) rfl⟩
theorem cw_preS {D : va_G} {A : Nat → Prop} {ad : Nat → Nat} {cA : Nat → ClassId} {tb0 tb1 : Nat} {st : CwS} {s : State} {H : Heap} {locs : List Loc} {As : List Value} (hK : cwK D A ad cA tb0 tb1 s) (hO : cwO D A ad cA s st H locs) : PreS s H (va_Pc As (cwU D A ad cA tb0 tb1 st)) As :=
  ⟨cwU_blind, fun U hU hW => ⟨rfl, by rw [hU]; exact hO.1, hK.at hO.2 hU hW⟩⟩
theorem cw_preV {D : va_G} {A : Nat → Prop} {ad : Nat → Nat} {cA : Nat → ClassId} {tb0 tb1 : Nat} {st : CwS} {s : State} {H : Heap} {locs : List Loc} {As : List Value} {k ci : Nat} {q : vw_C} {fs : List Value} (hK : cwK D A ad cA tb0 tb1 s) (hO : cwO D A ad cA s st H locs) (hc : vwCl[ci]? = some q) (hk : k < 269) (he : cwc ad cA st k = .inr (ci, fs)) : PreV s H q.1 (ad k) (va_Pc (.ref (ad k) :: As) (cwU D A ad cA tb0 tb1 st)) As :=
  ⟨cwU_blind, va_recv hK.1 hO.1 hc (wd_get hk he), fun U hU hW => ⟨rfl, by rw [hU]; exact hO.1, hK.at hO.2 hU hW⟩⟩
abbrev cwQi (D : va_G) (A : Nat → Prop) (ad : Nat → Nat) (cA : Nat → ClassId) (tb0 tb1 : Nat) (r : Int32) (st2 : CwS) := va_Qi (fun (x : Int32) (_ : Unit) => x = r) (fun _ t => va_P D vwCl (wd ad 269 (cwc ad cA st2)) t.heap) A
abbrev cwQl (D : va_G) (A : Nat → Prop) (ad : Nat → Nat) (cA : Nat → ClassId) (tb0 tb1 : Nat) (r : Int64) (st2 : CwS) := va_Ql (fun (x : Int64) (_ : Unit) => x = r) (fun _ t => va_P D vwCl (wd ad 269 (cwc ad cA st2)) t.heap) A
abbrev cwQv (D : va_G) (A : Nat → Prop) (ad : Nat → Nat) (cA : Nat → ClassId) (tb0 tb1 : Nat) (st2 : CwS) := va_Qv (fun (_ : Unit) => True) (fun _ t => va_P D vwCl (wd ad 269 (cwc ad cA st2)) t.heap) A
abbrev cwQr (D : va_G) (A : Nat → Prop) (ad : Nat → Nat) (cA : Nat → ClassId) (tb0 tb1 : Nat) (k : Nat) (st2 : CwS) := va_Qr (fun (_ : Unit) => True) (fun _ x t => x = ad k ∧ va_P D vwCl (wd ad 269 (cwc ad cA st2)) t.heap) A
def cpk (sp dp n : Int32) (n0 n1 : Nat) : Bool := decide (0 ≤ sp.toInt ∧ 0 ≤ dp.toInt ∧ 0 ≤ n.toInt ∧ sp.toInt + n.toInt ≤ n0 ∧ dp.toInt + n.toInt ≤ n1)
theorem cpk_nn {x : Int32} (h : 0 ≤ x.toInt) : ¬ x < 0 := by
  intro q
  have q1 := Int32.lt_iff_toInt_lt.mp q
  have q2 : (0 : Int32).toInt = 0 := rfl
  omega
theorem cpk_all {sp dp n : Int32} {n0 n1 : Nat} (h : cpk sp dp n n0 n1 = true) : ¬ sp < 0 ∧ ¬ dp < 0 ∧ ¬ n < 0 ∧ sp.toNatClampNeg + n.toNatClampNeg ≤ n0 ∧ dp.toNatClampNeg + n.toNatClampNeg ≤ n1 := by
  have h := of_decide_eq_true h
  have q1 : sp.toNatClampNeg = sp.toInt.toNat := rfl
  have q2 : dp.toNatClampNeg = dp.toInt.toNat := rfl
  have q3 : n.toNatClampNeg = n.toInt.toNat := rfl
  exact ⟨cpk_nn h.1, cpk_nn h.2.1, cpk_nn h.2.2.1, by omega, by omega⟩
section CWR
variable {p : Program} {l : Launch} {e : Env} {R : Room} {s : State} {m : MethodId} {args : Array Value} {below : List Frame} {meth : Method} {c : Code} {H : Heap} {locs : List Loc} {cells slots : Nat} {Q : State → Prop}
variable {cc : ByteArray} {pc : Nat} {ls : Array Slot} {rest st0 : List Value} {D : va_G} {A : Nat → Prop} {ad : Nat → Nat} {cA : Nat → ClassId} {tb0 tb1 : Nat} {st st2 : CwS} {a : Array Value}
theorem cw_calli {r : Int32} (hr : va_Run p l e R s m args below meth c H locs cells slots 0 0 (F0 m pc ls st0) rest (cwQi D A ad cA tb0 tb1 r st2 a) A) (hO : cwO D A ad cA s st H locs) (kk : ∀ (H1 : Heap) (locs1 : List Loc), cwO D A ad cA s st2 H1 locs1 → W p l e R s m args below meth c H1 locs1 cells slots Q (F0 m (pc + 3) ls (.int r :: rest))) : W p l e R s m args below meth c H locs cells slots Q (F0 m pc ls st0) :=
  va_calli hr hO.2 (fun _ _ h => h) (fun _ h => h) (fun r' u t H1 locs1 ht hvm hp hB _ _ hS => by subst hp; exact kk H1 locs1 ⟨by rw [← ht]; exact hB, hS⟩)
theorem cw_calll {r : Int64} (hr : va_Run p l e R s m args below meth c H locs cells slots 0 0 (F0 m pc ls st0) rest (cwQl D A ad cA tb0 tb1 r st2 a) A) (hO : cwO D A ad cA s st H locs) (kk : ∀ (H1 : Heap) (locs1 : List Loc), cwO D A ad cA s st2 H1 locs1 → W p l e R s m args below meth c H1 locs1 cells slots Q (F0 m (pc + 3) ls (.long r :: rest))) : W p l e R s m args below meth c H locs cells slots Q (F0 m pc ls st0) :=
  va_calll hr hO.2 (fun _ _ h => h) (fun _ h => h) (fun r' u t H1 locs1 ht hvm hp hB _ _ hS => by subst hp; exact kk H1 locs1 ⟨by rw [← ht]; exact hB, hS⟩)
theorem cw_callv (hr : va_Run p l e R s m args below meth c H locs cells slots 0 0 (F0 m pc ls st0) rest (cwQv D A ad cA tb0 tb1 st2 a) A) (hO : cwO D A ad cA s st H locs) (kk : ∀ (H1 : Heap) (locs1 : List Loc), cwO D A ad cA s st2 H1 locs1 → W p l e R s m args below meth c H1 locs1 cells slots Q (F0 m (pc + 3) ls (rest))) : W p l e R s m args below meth c H locs cells slots Q (F0 m pc ls st0) :=
  va_callv hr hO.2 (fun _ _ h => h) (fun _ h => h) (fun u t H1 locs1 ht hvm hp hB _ _ hS => kk H1 locs1 ⟨by rw [← ht]; exact hB, hS⟩)
theorem cw_callr {k : Nat} (hr : va_Run p l e R s m args below meth c H locs cells slots 0 0 (F0 m pc ls st0) rest (cwQr D A ad cA tb0 tb1 k st2 a) A) (hO : cwO D A ad cA s st H locs) (kk : ∀ (H1 : Heap) (locs1 : List Loc), cwO D A ad cA s st2 H1 locs1 → W p l e R s m args below meth c H1 locs1 cells slots Q (F0 m (pc + 3) ls (.ref (ad k) :: rest))) : W p l e R s m args below meth c H locs cells slots Q (F0 m pc ls st0) :=
  va_callr hr hO.2 (fun _ _ h => h) (fun _ h => h) (fun u ra t H1 locs1 ht hvm hp hB _ _ hS => by obtain ⟨rfl, hB⟩ := hB; exact kk H1 locs1 ⟨by rw [← ht]; exact hB, hS⟩)
theorem cw_iret {r : Int32} (hx : p.tables.exec = Jvm.exec) (hb : c.code = cc) (hr : meth.sig.returnType = some .int) (hlocks : meth.locks = false) (hO : cwO D A ad cA s st H locs) (hdg : decode cc pc = .ok (.ireturn, 1)) : W p l e R s m args below meth c H locs cells slots (MQ below (cwQi D A ad cA tb0 tb1 r st) args s cells slots A) (F0 m pc ls [.int r]) :=
  W.iret hx hb hr (fun t ht hW => ⟨⟨r, (), rfl, rfl, by subst ht; exact hO.1⟩, hO.2.F ht⟩) hO.2.2.2 hdg hlocks
theorem cw_zret {r : Int32} (hx : p.tables.exec = Jvm.exec) (hb : c.code = cc) (hr : meth.sig.returnType = some .boolean) (hlocks : meth.locks = false) (hO : cwO D A ad cA s st H locs) (hn : narrow .boolean (.int r) = .int r) (hdg : decode cc pc = .ok (.ireturn, 1)) : W p l e R s m args below meth c H locs cells slots (MQ below (cwQi D A ad cA tb0 tb1 r st) args s cells slots A) (F0 m pc ls [.int r]) :=
  W.zret hx hb hr hn (fun t ht hW => ⟨⟨r, (), rfl, rfl, by subst ht; exact hO.1⟩, hO.2.F ht⟩) hO.2.2.2 hdg hlocks
theorem cw_lret {r : Int64} (hx : p.tables.exec = Jvm.exec) (hb : c.code = cc) (hr : meth.sig.returnType = some .long) (hlocks : meth.locks = false) (hO : cwO D A ad cA s st H locs) (hdg : decode cc pc = .ok (.lreturn, 1)) : W p l e R s m args below meth c H locs cells slots (MQ below (cwQl D A ad cA tb0 tb1 r st) args s cells slots A) (F0 m pc ls [.long r]) :=
  W.lret hx hb hr (fun t ht hW => ⟨⟨r, (), rfl, rfl, by subst ht; exact hO.1⟩, hO.2.F ht⟩) hO.2.2.2 hdg hlocks
theorem cw_vret (hx : p.tables.exec = Jvm.exec) (hb : c.code = cc) (hr : meth.sig.returnType = none) (hlocks : meth.locks = false) (hO : cwO D A ad cA s st H locs) (hdg : decode cc pc = .ok (.return_, 1)) : W p l e R s m args below meth c H locs cells slots (MQ below (cwQv D A ad cA tb0 tb1 st) args s cells slots A) (F0 m pc ls []) :=
  W.vret hx hb hr (fun t ht hW => ⟨⟨(), rfl, trivial, by subst ht; exact hO.1⟩, hO.2.F ht⟩) hO.2.2.2 hdg hlocks
theorem cw_aret {k : Nat} {rt : FieldType} (hx : p.tables.exec = Jvm.exec) (hb : c.code = cc) (hr : meth.sig.returnType = some rt) (hrt : ∃ n, rt = .object n) (hlocks : meth.locks = false) (hO : cwO D A ad cA s st H locs) (hdg : decode cc pc = .ok (.areturn, 1)) : W p l e R s m args below meth c H locs cells slots (MQ below (cwQr D A ad cA tb0 tb1 k st) args s cells slots A) (F0 m pc ls [.ref (ad k)]) :=
  W.aret hx hb hr (Or.inl hrt) (Or.inr ⟨_, rfl⟩) (fun t ht hW => ⟨⟨(), ad k, rfl, trivial, rfl, by subst ht; exact hO.1⟩, hO.2.F ht⟩) hO.2.2.2 hdg hlocks
theorem cw_tableD (hexec : p.tables.exec = Jvm.exec) (hb : c.code = cc) {dflt lo hi : Int} {offs : Array Int} {len : Nat} {x : Int32} {tgt : Nat} (hdg : decode cc pc = .ok (.tableswitch dflt lo hi offs, len)) (h : x.toInt < lo ∨ hi < x.toInt ∨ offs[(x.toInt - lo).toNat]? = some dflt) (ht : (pc : Int) + dflt = (tgt : Int)) (k : W p l e R s m args below meth c H locs cells slots Q (F0 m tgt ls rest)) : W p l e R s m args below meth c H locs cells slots Q (F0 m pc ls (.int x :: rest)) := by
  by_cases h1 : x.toInt < lo
  · exact lv_tableOut hexec hb hdg (Or.inl h1) ht k
  by_cases h2 : hi < x.toInt
  · exact lv_tableOut hexec hb hdg (Or.inr h2) ht k
  rcases h with h | h | h
  · exact absurd h h1
  · exact absurd h h2
  · exact lv_tableIn hexec hb hdg h1 h2 h ht k
end CWR
