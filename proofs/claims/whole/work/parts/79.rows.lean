-- PURE: codes 15 .. 21: rows
theorem vR.tr {a b a' b' : CwS} {i base base' : Nat} {kd : Int32} {va vb : Int64} {r : Nat} (h : vR a b i base kd va vb r) (k : (kd = 1 ∨ kd = 2) → ∀ ρ α n : Nat, ρ < 12 → va = lN ρ → r = α + 1 → base ≤ α → α < gR b 101 2 → gR b 103 α = 1 → gR b 100 α = n → n ≤ 16 → gI a 20 i ρ = nI n → (∀ k, k < n → gL a 7 i (16 * ρ + k) = gL b 9 α k) → (base' ≤ α ∧ α < gR b' 101 2 ∧ gR b' 103 α = 1 ∧ gR b' 100 α = n ∧ gI a' 20 i ρ = nI n ∧ ∀ k, k < n → gL a' 7 i (16 * ρ + k) = gL b' 9 α k)) : vR a' b' i base' kd va vb r := by
  rcases h with h | ⟨h0, ρ, α, n, h1, h2, h3, h4, h5, h6, h7, h8, h9, h10⟩
  · exact Or.inl h
  · obtain ⟨k1, k2, k3, k4, k5, k6⟩ := k h0 ρ α n h1 h2 h3 h4 h5 h6 h7 h8 h9 h10
    exact Or.inr ⟨h0, ρ, α, n, h1, h2, h3, k1, k2, k3, k4, h8, k5, k6⟩
/-- the first m elements of the row ρ become 0 -/
def zr (a : CwS) (i ρ m : Nat) : CwS := (a.1, fun c' i' p' => if c' = 7 then (if i' = i then (if 16 * ρ ≤ p' ∧ p' < 16 * ρ + m then 0 else a.2.1 c' i' p') else a.2.1 c' i' p') else a.2.1 c' i' p', a.2.2)
theorem gL_zr (a : CwS) (i ρ m c' i' p' : Nat) : gL (zr a i ρ m) c' i' p' = if c' = 7 ∧ i' = i ∧ 16 * ρ ≤ p' ∧ p' < 16 * ρ + m then 0 else gL a c' i' p' := by
  by_cases h1 : c' = 7 <;> by_cases h2 : i' = i <;> by_cases h3 : 16 * ρ ≤ p' ∧ p' < 16 * ρ + m <;> simp [gL, zr, h1, h2, h3]
theorem zr_0 (a : CwS) (i ρ : Nat) : zr a i ρ 0 = a := by
  refine Prod.ext rfl (Prod.ext ?_ rfl)
  funext c' i' p'
  show gL (zr a i ρ 0) c' i' p' = gL a c' i' p'
  rw [gL_zr, if_neg (by omega)]
theorem zr_s (a : CwS) (i ρ m : Nat) : sL (zr a i ρ m) 7 i (16 * ρ + m) 0 = zr a i ρ (m + 1) := by
  refine Prod.ext rfl (Prod.ext ?_ rfl)
  funext c' i' p'
  show gL (sL (zr a i ρ m) 7 i (16 * ρ + m) 0) c' i' p' = gL (zr a i ρ (m + 1)) c' i' p'
  rw [gL_sL, gL_zr, gL_zr]
  by_cases h : c' = 7 ∧ i' = i ∧ p' = 16 * ρ + m
  · rw [if_pos h, if_pos (by omega)]
  · rw [if_neg h]
    by_cases g : c' = 7 ∧ i' = i ∧ 16 * ρ ≤ p' ∧ p' < 16 * ρ + m
    · rw [if_pos g, if_pos (by omega)]
    · rw [if_neg g, if_neg (by omega)]
theorem nI_m16 {c x : Nat} : nI c * 16 + nI x = nI (16 * c + x) := by
  have e : (16 : Int32) = nI 16 := rfl
  have e2 : nI c * nI 16 = nI (c * 16) := (Int32.ofNat_mul c 16).symm
  rw [e, e2, nI_add, Nat.mul_comm]
theorem q_cmp_ge {a b : Nat} (ha : a < 2 ^ 31) (hb : b < 2 ^ 31) : 0 ≤ lg_cmp (lN a) (lN b) ↔ b ≤ a := by
  rw [lg_cmp_ge, lN_le hb ha]
theorem q_L70 {a : CwS} {i h ρ len : Nat} {kd : Int32} (hl : len ≤ 16) (hρ : ρ < 12) (hh : gI a 18 i 0 = nI h) (h12 : h < 12) : ∀ (f k : Nat), k + f = 17 → k ≤ len → j_Rows_putNew_L70 f i kd (lN len) (nI ρ) (nI k) (zr a i ρ k) = some (0, aP (zr a i ρ len) i h kd (lN ρ))
  | 0, k, h1, h2 => by omega
  | f + 1, k, h1, h2 => by
    unfold j_Rows_putNew_L70
    rw [nI_l (by omega)]
    by_cases z : k = len
    · subst z
      rw [if_pos ((q_cmp_ge (by omega) (by omega)).mpr (Nat.le_refl _)), nI_l (by omega), q_put (a := zr a i ρ k) hh h12, bR_s]
    · rw [if_neg (fun g => by have := (q_cmp_ge (by omega) (by omega)).mp g; omega), nI_m16, ckn (by omega) (by omega), nI_clamp (by omega), nI_1, zr_s]
      exact q_L70 hl hρ hh h12 f (k + 1) (by omega) (by omega)
variable {a b : CwS} {i base T F S c bb n hn h H : Nat}
theorem rNew_103 (b : CwS) (m x : Nat) : gR (rNew b m) 103 x = if x = gR b 101 2 then 1 else gR b 103 x := by
  show gR (sR (sR (zL b 9 (gR b 101 2)) 100 (gR b 101 2) m) 103 (gR b 101 2) 1) 103 x = _
  rw [gR_sR]; simp; rfl
theorem rNew_100 (b : CwS) (m x : Nat) : gR (rNew b m) 100 x = if x = gR b 101 2 then m else gR b 100 x := by
  show gR (sR (zL b 9 (gR b 101 2)) 100 (gR b 101 2) m) 100 x = _
  rw [gR_sR]; simp; rfl
theorem rNew_9 (b : CwS) (m x p : Nat) : gL (rNew b m) 9 x p = if x = gR b 101 2 then 0 else gL b 9 x p := by
  show gL (zL b 9 (gR b 101 2)) 9 x p = _
  rw [gL_zL]; simp
/-- a row that no value has yet -/
theorem Rel.fresh (r : Rel a b i base T F S c bb n hn h H) {ρ len : Nat} (hρ : ρ < 12) (hl : len ≤ 16) (hf : ∀ q, q < h → (gI a 17 i q = 1 ∨ gI a 17 i q = 2) → gL a 6 i q ≠ lN ρ) : Rel (zr (sI a 20 i ρ (nI len)) i ρ len) (rNew b len) i base T F S c bb n hn h h := by
  obtain ⟨r1, r2, r3, r4, r5, r6, r7, r8, r9, r10⟩ := r.low
  refine ⟨r1, r2, r3, r4, r5, r6, r7, ⟨fun p hp => ⟨(r8.1 p hp).1, (r8.1 p hp).2.tr fun k0 ρ' α m h1 h2 h3 h4 h5 h6 h7 h8 h9 h10 => ?_⟩, fun p q hp hq => r8.2 p q hp hq⟩, r9, r10.1, r10.2.1, r10.2.2.1, Nat.le_trans r10.2.2.2 (Nat.le_succ _)⟩
  have ne : ρ' ≠ ρ := fun z => hf p hp k0 (by rw [← z]; exact h2)
  refine ⟨h4, Nat.lt_succ_of_lt h5, ?_, ?_, ?_, fun k hk => ?_⟩
  · rw [rNew_103, if_neg (by omega)]; exact h6
  · rw [rNew_100, if_neg (by omega)]; exact h7
  · show gI (sI a 20 i ρ (nI len)) 20 i ρ' = nI m
    rw [gI_sI, if_neg (by omega)]; exact h9
  · rw [gL_zr, if_neg (by omega), rNew_9, if_neg (by omega)]
    exact h10 k hk
theorem newV {ρ len : Nat} (r : Rel a b i base T F S c bb n hn h H) (hρ : ρ < 12) (hl : len ≤ 16) {kd : Int32} (hk : kd = 1 ∨ kd = 2) : vR (zr (sI a 20 i ρ (nI len)) i ρ len) (rNew b len) i base kd (lN ρ) 0 (gR b 101 2 + 1) := by
  have hb : base ≤ gR b 101 2 := r.hp.2.2.2
  refine Or.inr ⟨hk, ρ, gR b 101 2, len, hρ, rfl, rfl, hb, Nat.lt_succ_self _, ?_, ?_, hl, ?_, fun k hk => ?_⟩
  · rw [rNew_103, if_pos rfl]
  · rw [rNew_100, if_pos rfl]
  · show gI (sI a 20 i ρ (nI len)) 20 i ρ = nI len
    rw [gI_sI, if_pos ⟨rfl, rfl, rfl⟩]
  · rw [gL_zr, if_pos (by omega), rNew_9, if_pos rfl]
theorem newA {ρ : Nat} (r : Rel a b i base T F S c bb n hn h H) (hρ : ρ < 12) (hf : ∀ q, q < h → (gI a 17 i q = 1 ∨ gI a 17 i q = 2) → gL a 6 i q ≠ lN ρ) {kd : Int32} (q : Nat) (hq : q < h) : aR (gI a 17 i q) (gL a 6 i q) (gR b 50 (16 * i + q)) kd (lN ρ) (gR b 101 2 + 1) := by
  intro k1 k2
  constructor
  · exact fun z => absurd z (hf q hq k1)
  · intro z
    exfalso
    have v := r.vr q (Nat.lt_of_lt_of_le hq r.hi.2.2.1)
    rcases v with ⟨k, _⟩ | ⟨_, ρ', α, m, _, _, s3, _, s5, _⟩
    · rcases k with k | k <;> rw [k] at k1 <;> rcases k1 with k1 | k1 <;> exact absurd k1 (by decide)
    · omega
theorem lt0 {x : Int64} : lg_cmp x 0 < 0 ↔ x.toInt < 0 := by
  rw [lg_cmp_lt, Int64.lt_iff_toInt_lt]; rfl
theorem ge0 {x : Int64} : 0 ≤ lg_cmp x 0 ↔ 0 ≤ x.toInt := by
  rw [lg_cmp_ge, Int64.le_iff_toInt_le]; rfl
theorem le16 {x : Int64} : lg_cmp x 16 ≤ 0 ↔ x.toInt ≤ 16 := by
  rw [lg_cmp_le, Int64.le_iff_toInt_le]; rfl
theorem lN_of {x : Int64} {m : Nat} (hm : m < 2 ^ 31) (h0 : 0 ≤ x.toInt) (h1 : x.toInt ≤ m) : ∃ j, j ≤ m ∧ x = lN j := by
  refine ⟨x.toInt.toNat, by omega, Int64.toInt_inj.mp ?_⟩
  rw [lN_toInt (by omega)]
  omega
theorem q_isRowNew (b : CwS) (m : Nat) : isRow (rNew b m) (gR b 101 2 + 1) = true := by
  refine decide_eq_true ⟨by omega, ?_⟩
  rw [Nat.add_sub_cancel, rNew_103, if_pos rfl]
theorem g_new (cd kd : Int32) (hcd : (cd = 15 ∧ kd = 1) ∨ (cd = 16 ∧ kd = 2)) (r : Rel a b i base T F S c bb n hn h (h + 1)) (hH : gI a 19 i 0 = nI (h + 1)) : Good a b i base T F S c bb (j_Rows_putNew i kd a) (j_Mo_rowed_L12 i cd (nI h) b) := by
  have q := r.hi
  have t0 : j_Pile_tookNumber i (0 : Int32) a = _ := tkB 0 h hH rfl q.2.2.2
  have t1 : j_Pile_took i (0 : Int32) a = _ := tkN 0 h hH rfl q.2.2.2
  unfold j_Rows_putNew j_Mo_rowed_L12
  simp only [t0, t1, bR_s, mNb (show h < 13 by omega), r.kd h (by omega), ckn (show h < 13 by omega) (by omega), nI_clamp (show h < 2 ^ 31 by omega)]
  by_cases k0 : gI a 17 i h = 0
  · rw [r.nm h (by omega) k0]
    simp only [k0, if_true, i10, if_false]
    by_cases z0 : 0 ≤ (gL a 6 i h).toInt
    · by_cases z1 : (gL a 6 i h).toInt ≤ 16
      · obtain ⟨len, hl, e⟩ := lN_of (m := 16) (by omega) z0 z1
        obtain ⟨ρ, hρ, ef, hf⟩ := q_free q.1 (by omega) r.low.pile
        have l0 : rAl (lN len).toInt32 = true := by
          rw [lN_i]
          refine decide_eq_true ?_
          rw [nI_toInt (by omega)]
          omega
        have e70 := q_L70 (a := sI a 20 i ρ (nI len)) (i := i) (kd := kd) hl hρ q.1 (by omega) 17 0 rfl (Nat.zero_le _)
        rw [zr_0] at e70
        have e70' : j_Rows_putNew_L70 17 i kd (lN len) (nI ρ) 0 (sI a 20 i ρ (nI len)) = _ := e70
        have ep : ∀ kd, j_MF_push i kd 0 (gR b 101 2 + 1) (rNew b len) = some (bP (rNew b len) i h kd 0 (gR b 101 2 + 1)) := fun kd => q_push (b := rNew b len) q.2.1 (by omega) (Or.inr (q_isRowNew b len))
        have r2 := (r.fresh (len := len) hρ hl hf).push (by omega) (newV r hρ hl (kd := kd) (by rcases hcd with ⟨_, z⟩ | ⟨_, z⟩ <;> simp [z])) (fun q hq => newA r hρ hf q hq)
        have fin : Good a b i base T F S c bb (some (0, aP (zr (sI a 20 i ρ (nI len)) i ρ len) i h kd (lN ρ))) (some (0, bP (rNew b len) i h kd 0 (gR b 101 2 + 1))) := by
          refine ⟨0, n, hn, h + 1, _, _, rfl, rfl, by omega, r2, SameX.put ?_, SameY.put ((SameM.refl _ _ _).new _ r.hp.2.2.2), rfl, Nat.le_refl _, Nat.add_le_add_left hl _⟩
          have s1 := (SameC.refl i a).wI (k := 20) (j := i) (p := ρ) (nI len) (by unfold cOkI; omega)
          refine ⟨s1.1, fun k j p g => ?_, s1.2.2⟩
          rw [gL_zr, if_neg]
          · rfl
          · rintro ⟨rfl, rfl, _⟩; exact g (by unfold cOkL; omega)
        rw [e, if_pos (ge0.mpr (by rw [← e]; exact z0)), if_pos (le16.mpr (by rw [← e]; exact z1)), ef, bR_s, if_pos (nI_pos' (by omega)), ckn hρ (by omega), nI_clamp (by omega), lN_i, e70', if_neg (fun g => by have := lt0.mp g; rw [← e] at this; omega), if_pos (le16.mpr (by rw [← e]; exact z1))]
        rw [lN_i] at l0
        rcases hcd with ⟨rfl, rfl⟩ | ⟨rfl, rfl⟩
        · rw [if_pos rfl, ck_t l0, nI_clamp (by omega)]
          simp only [bS, ep, bV_s]
          exact fin
        · rw [if_neg (by decide), ck_t l0, nI_clamp (by omega)]
          simp only [bS, ep, bV_s]
          exact fin
      · rw [if_pos (ge0.mpr z0), if_neg (fun g => z1 (le16.mp g)), if_neg (fun g => by have := lt0.mp g; omega), if_neg (fun g => z1 (le16.mp g))]
        unfold j_Mo_rowed_L46
        rw [if_pos (ge0.mpr z0)]
        exact gd_fail 6 (by omega) r
    · rw [if_neg (fun g => z0 (ge0.mp g)), if_pos (lt0.mpr (by omega))]
      unfold j_Mo_rowed_L46
      rw [if_neg (fun g => z0 (ge0.mp g))]
      exact gd_fail 5 (by omega) r
  · simp only [k0, if_true, i10, if_false]
    exact gd_fail 4 (by omega) r
theorem q_len {ρ m : Nat} (hρ : ρ < 12) (e : gI a 20 i ρ = nI m) : j_Rows_lengthOf i (lN ρ) a = some (nI m, a) := by
  unfold j_Rows_lengthOf
  rw [if_neg (fun g => by have := lt0.mp g; rw [lN_toInt (by omega)] at this; omega), if_neg (fun g => by have := (q_cmp_ge (b := 12) (by omega) (by omega)).mp g; omega), lN_i, ckn hρ (by omega), nI_clamp (by omega), e]
theorem q_plc {ρ k : Nat} : j_Rows_placeOf i (lN ρ) (lN k) a = some (nI (16 * ρ + k), a) := by
  unfold j_Rows_placeOf
  rw [lN_i, lN_i, nI_m16]
theorem ltN {x : Int64} {m : Nat} (hm : m < 2 ^ 31) : lg_cmp x (lN m) < 0 ↔ x.toInt < m := by
  rw [lg_cmp_lt, Int64.lt_iff_toInt_lt, lN_toInt hm]
theorem geN {x : Int64} {m : Nat} (hm : m < 2 ^ 31) : 0 ≤ lg_cmp x (lN m) ↔ (m : Int) ≤ x.toInt := by
  rw [lg_cmp_ge, Int64.le_iff_toInt_le, lN_toInt hm]
/-- an element that is there, or why not -/
theorem q_elF {kd kv : Int32} {va vb y : Int64} {r0 : Nat} (hk : kd = 1 ∨ kd = 2) (v : vR a b i base kv va vb r0) : (kv = 3 ∧ j_Rows_elementFailure i kd kv va y a = some (2, a)) ∨ (¬ kv = 3 ∧ ¬ kv = kd ∧ j_Rows_elementFailure i kd kv va y a = some (4, a)) ∨ (¬ kv = 3 ∧ kv = kd ∧ ∃ ρ α m : Nat, ρ < 12 ∧ va = lN ρ ∧ r0 = α + 1 ∧ base ≤ α ∧ α < gR b 101 2 ∧ gR b 103 α = 1 ∧ gR b 100 α = m ∧ m ≤ 16 ∧ gI a 20 i ρ = nI m ∧ (∀ k, k < m → gL a 7 i (16 * ρ + k) = gL b 9 α k) ∧ ((y.toInt < 0 ∧ j_Rows_elementFailure i kd kv va y a = some (3, a)) ∨ ((m : Int) ≤ y.toInt ∧ ¬ y.toInt < 0 ∧ j_Rows_elementFailure i kd kv va y a = some (3, a)) ∨ ∃ k, k < m ∧ y = lN k ∧ j_Rows_elementFailure i kd kv va y a = some (0, a))) := by
  unfold j_Rows_elementFailure
  by_cases k3 : kv = 3
  · exact Or.inl ⟨k3, if_pos k3⟩
  · rw [if_neg k3]
    by_cases k4 : kv = kd
    · refine Or.inr (Or.inr ⟨k3, k4, ?_⟩)
      rw [if_pos k4]
      obtain ⟨_, ρ, α, m, h1, h2, h3, h4, h5, h6, h7, h8, h9, h10⟩ := v.row (by rcases hk with z | z <;> rw [k4, z] <;> decide) k3
      refine ⟨ρ, α, m, h1, h2, h3, h4, h5, h6, h7, h8, h9, h10, ?_⟩
      by_cases y0 : y.toInt < 0
      · exact Or.inl ⟨y0, if_pos (lt0.mpr y0)⟩
      · rw [if_neg (fun g => y0 (lt0.mp g)), h2, q_len h1 h9, bR_s, nI_l (by omega)]
        by_cases y1 : (m : Int) ≤ y.toInt
        · exact Or.inr (Or.inl ⟨y1, y0, if_pos ((geN (by omega)).mpr y1)⟩)
        · rw [if_neg (fun g => y1 ((geN (by omega)).mp g))]
          obtain ⟨k, hk, e⟩ := lN_of (x := y) (m := m) (by omega) (by omega) (by omega)
          refine Or.inr (Or.inr ⟨k, ?_, e, rfl⟩)
          rw [e, lN_toInt (by omega)] at y1
          omega
    · exact Or.inr (Or.inl ⟨k3, k4, if_neg k4⟩)
theorem q_wr {p : Nat} (hp : p < 13) (kd : Int32) : j_Mo_wrongRow i (nI p) kd b = some (if gI b 21 i p = 3 then 2 else if gI b 21 i p = kd then 0 else 4, b) := by
  unfold j_Mo_wrongRow
  rw [ckn hp (by omega), ckn hp (by omega), nI_clamp (by omega)]
  split
  · rfl
  · split <;> rfl
theorem q_isRow {α : Nat} (h6 : gR b 103 α = 1) : isRow b (α + 1) = true := decide_eq_true ⟨by omega, by rw [Nat.add_sub_cancel]; exact h6⟩
theorem lN_len {m : Nat} : (Int32.ofNat m).toInt64 = (nI m).toInt64 := rfl
/-- codes 17, 18 behind their first tests -/
theorem g_el (kd : Int32) (hk : kd = 1 ∨ kd = 2) (r : Rel a b i base T F S c bb n hn h (h + 2)) (hH : gI a 19 i 0 = nI (h + 2)) (y : Int64) (ey : gL a 6 i (h + 1) = y) (k1 : gI a 17 i (h + 1) = 0) : Good a b i base T F S c bb (bR (j_Rows_elementFailure i kd (gI a 17 i h) (gL a 6 i h) y a) fun r14 st15 =>
    if r14 = ((0 : Int32)) then
      bR (j_Rows_placeOf i (gL a 6 i h) y st15) fun r18 st19 =>
      ck (ix r18 192) <|
      bR (j_Pile_putNumber i (gL st19 7 i r18.toNatClampNeg) st19) fun r22 st23 =>
      some (r22, st23)
    else
      some (r14, st15)) (j_Mo_rowed_L209 i (nI h) 0 kd b) := by
  have q := r.hi
  have eb : gL b 7 i (h + 1) = y := by rw [← ey]; exact r.nm (h + 1) (by omega) k1
  unfold j_Mo_rowed_L209
  rw [q_wr (by omega), bR_s, r.kd h (by omega), nI_1, ckn (show h + 1 < 13 by omega) (by omega), nI_clamp (show h + 1 < 2 ^ 31 by omega), eb, ckn (show h < 13 by omega) (by omega), ckn (show h < 13 by omega) (by omega), nI_clamp (show h < 2 ^ 31 by omega)]
  rcases q_elF (y := y) hk (r.vr h (by omega)) with ⟨z, e⟩ | ⟨z, z2, e⟩ | ⟨z, z2, ρ, α, m, h1, h2, h3, h4, h5, h6, h7, h8, h9, h10, w⟩
  · rw [e, bR_s, z]
    exact gd_fail 2 (by omega) r
  · rw [e, bR_s, if_neg z, if_neg z2]
    exact gd_fail 4 (by omega) r
  · rw [if_neg z, if_pos z2, if_pos (by decide), h3, ck_t (q_isRow h6), ck_t (q_isRow h6), Nat.add_sub_cancel, h7, lN_len, nI_l (by omega)]
    rcases w with ⟨y0, e⟩ | ⟨y1, y0, e⟩ | ⟨k, hk, e0, e⟩
    · rw [e, bR_s, if_neg (by decide), if_pos (lt0.mpr y0)]
      exact gd_fail 3 (by omega) r
    · rw [e, bR_s, if_neg (by decide), if_neg (fun g => y0 (lt0.mp g)), if_neg (fun g => by have := (ltN (by omega)).mp g; omega)]
      exact gd_fail 3 (by omega) r
    · have yk : y.toInt = k := by rw [e0, lN_toInt (by omega)]
      rw [e, bR_s, if_pos rfl, if_neg (fun g => by have := lt0.mp g; omega), if_pos ((ltN (by omega)).mpr (by omega)), if_pos rfl, h2, e0, q_plc, bR_s, ckn (by omega) (by omega), nI_clamp (by omega), lN_i, ckn hk (by omega), nI_clamp (by omega), h10 k hk, bV_id]
      exact gd_put r (by omega) _
