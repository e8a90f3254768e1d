-- PURE: a call opens, on both sides
def aOp (a : CwS) (d B : Nat) (C cl st : Int32) : CwS := sI (sI (sI (sI (sI (sI (sI (sI (sR (sI (cL (cL a 0 0 0 3 d 0 64) 1 0 0 4 d 0 8) 6 0 d (gI a 5 0 0)) 0 d B) 13 d 0 C) 14 d 0 cl) 16 d 0 st) 15 d 0 0) 12 d 0 0) 18 d 0 0) 8 0 0 (nI (d + 1))) 7 0 2 (if gI a 7 0 2 < nI (d + 1) then nI (d + 1) else gI a 7 0 2)
theorem cpk64 : cpk 0 0 64 64 64 = true := by decide
theorem cpk8 : cpk 0 0 8 8 8 = true := by decide
theorem q_open {a : CwS} {d : Nat} (hd : gI a 8 0 0 = nI d) (h10 : d < 10) (B : Nat) (C cl lim : Int32) : j_Walk_open B C cl lim a = some (d, aOp a d B C cl (gI a 7 0 0 + lim)) := by
  unfold j_Walk_open j_Ledger_keep j_Frame_begin
  rw [hd, ckn h10 (by omega), ck_t cpk64, ckn h10 (by omega), ck_t cpk8, ckn h10 (by omega), z32_0, z32_64, z32_8, nI_clamp (by omega), bV_s]
  have e1 : gI (sI (cL (cL a 0 0 0 3 d 0 64) 1 0 0 4 d 0 8) 6 0 d (gI (cL (cL a 0 0 0 3 d 0 64) 1 0 0 4 d 0 8) 5 0 0)) 8 0 0 = nI d := hd
  rw [e1, ckn h10 (by omega), ck_t ix5.1, nI_clamp (by omega), bV_s, ck_t ix5.2.2.1, ck_t ix5.2.2.1, z32_2]
  have e2 : ∀ v1 v2 v3 v4 v5 v6 v7 v8, gI (sI (sI (sI (sI (sI (sI (sR (sI (cL (cL a 0 0 0 3 d 0 64) 1 0 0 4 d 0 8) 6 0 d v1) 0 d v2) 13 d 0 v3) 14 d 0 v4) 16 d 0 v5) 15 d 0 v6) 12 d 0 v7) 18 d 0 v8) 8 0 0 = nI d := fun _ _ _ _ _ _ _ _ => hd
  rw [e2, nI_1]
  rfl
def bBeg (b : CwS) (d : Nat) (C cl B lim : Int32) : CwS := sL (sI (sI (sI (sI (sI (sI (sI b 14 d 0 C) 15 d 0 cl) 16 d 0 B) 17 d 0 lim) 18 d 0 0) 19 d 0 0) 20 d 0 0) 4 d 0 0
def FrG (b bG : CwS) (d : Nat) : Prop := (∀ k j p, k < 14 ∨ j ≠ d → gI bG k j p = gI b k j p) ∧ (∀ k j p, k < 4 ∨ 8 ≤ k ∨ j ≠ d → gL bG k j p = gL b k j p) ∧ (∀ k j, k ≠ 101 → k ≠ 102 → (k ≠ 50 ∨ j < 16 * d) → gR bG k j = gR b k j) ∧ d < gR bG 101 0 ∧ gR bG 101 0 ≤ 10 ∧ gR b 101 0 ≤ gR bG 101 0 ∧ gR b 101 2 + 8 * gR bG 101 0 = gR bG 101 2 + 8 * gR b 101 0 ∧ gR b 101 3 + 134 * gR bG 101 0 = gR bG 101 3 + 134 * gR b 101 0
theorem q_frame {b : CwS} {d : Nat} (hc : gI b 13 0 0 = nI d) (hd : d ≤ gR b 101 0) (h10 : d < 10) (hf : gR b 101 0 ≤ 10) (C cl B lim : Int32) : ∃ bG, j_Mo_frame C cl B lim b = some (d, bBeg bG d C cl B lim) ∧ FrG b bG d := by
  unfold j_Mo_frame
  rw [hc, ckn (show d < 11 by omega) (by omega), nI_clamp (by omega)]
  by_cases z : d < gR b 101 0
  · rw [if_pos z]
    exact ⟨b, rfl, fun _ _ _ _ => rfl, fun _ _ _ _ => rfl, fun _ _ _ _ _ => rfl, z, hf, Nat.le_refl _, rfl, rfl⟩
  · have e : d = gR b 101 0 := by omega
    rw [if_neg z, ck_t (decide_eq_true e)]
    have f0 : gR (fNew b) 101 0 = gR b 101 0 + 1 := rfl
    have f2 : gR (fNew b) 101 2 = gR b 101 2 + 8 := rfl
    have f3 : gR (fNew b) 101 3 = gR b 101 3 + 134 := rfl
    refine ⟨fNew b, rfl, fun k j p g => ?_, fun k j p g => ?_, fun k j g1 g2 g3 => ?_, ?_, ?_, ?_, ?_, ?_⟩
    · rw [gI_fNew, if_neg (by omega)]
    · rw [gL_fNew, if_neg (by omega)]
    · unfold fNew
      rw [gR_sR, if_neg (by omega), gR_sR, if_neg (by omega), gR_sR, if_neg (by omega), gR_sR, if_neg (by omega)]
      show (if k = 50 ∧ j / 16 = gR b 101 0 then 0 else gR b k j) = gR b k j
      rw [if_neg (by omega)]
    all_goals (rw [f0]; first | omega | (rw [f2]; omega) | (rw [f3]; omega))
def bH (b : CwS) (f : Nat) : CwS := cL (cL b 0 0 0 5 f 0 64) 1 0 0 6 f 0 8
def bMv (b : CwS) (c C : Nat) (v : Int64) : CwS := sL (sL b 1 0 c (gL b 1 0 c - v)) 1 0 C (gL (sL b 1 0 c (gL b 1 0 c - v)) 1 0 C + v)
def bUp (b : CwS) (d C : Nat) : CwS := sI (sI (sI b 13 0 0 (nI (d + 1))) 4 0 C (gI b 4 0 C + 1)) 10 0 0 (if gI b 10 0 0 < nI (d + 1) then nI (d + 1) else gI b 10 0 0)
def mEpi (f : Nat) (x4 r7 : Int32) (st8 : CwS) : Option (Int32 × CwS) :=
  ck (ix (gI (sI st8 13 0 0 ((gI st8 13 0 0) - ((1 : Int32)))) 14 f 0) 8) <|
  ck (ix (gI (sI st8 13 0 0 ((gI st8 13 0 0) - ((1 : Int32)))) 14 f 0) 8) <|
  if r7 = ((100 : Int32)) then
    some ((100 : Int32), sI (sI (sI st8 13 0 0 ((gI st8 13 0 0) - ((1 : Int32)))) 4 0 ((gI (sI st8 13 0 0 ((gI st8 13 0 0) - ((1 : Int32)))) 14 f 0).toNatClampNeg) ((gI (sI st8 13 0 0 ((gI st8 13 0 0) - ((1 : Int32)))) 4 0 ((gI (sI st8 13 0 0 ((gI st8 13 0 0) - ((1 : Int32)))) 14 f 0).toNatClampNeg)) - ((1 : Int32)))) 11 0 0 ((gI (sI (sI st8 13 0 0 ((gI st8 13 0 0) - ((1 : Int32)))) 4 0 ((gI (sI st8 13 0 0 ((gI st8 13 0 0) - ((1 : Int32)))) 14 f 0).toNatClampNeg) ((gI (sI st8 13 0 0 ((gI st8 13 0 0) - ((1 : Int32)))) 4 0 ((gI (sI st8 13 0 0 ((gI st8 13 0 0) - ((1 : Int32)))) 14 f 0).toNatClampNeg)) - ((1 : Int32)))) 11 0 0) + ((1 : Int32))))
  else
    ck (cpk ((0 : Int32)) ((0 : Int32)) ((64 : Int32)) 64 64) <|
    ck (cpk ((0 : Int32)) ((0 : Int32)) ((8 : Int32)) 8 8) <|
    some (r7, sI (cL (cL (sI (sI (sI st8 13 0 0 ((gI st8 13 0 0) - ((1 : Int32)))) 4 0 ((gI (sI st8 13 0 0 ((gI st8 13 0 0) - ((1 : Int32)))) 14 f 0).toNatClampNeg) ((gI (sI st8 13 0 0 ((gI st8 13 0 0) - ((1 : Int32)))) 4 0 ((gI (sI st8 13 0 0 ((gI st8 13 0 0) - ((1 : Int32)))) 14 f 0).toNatClampNeg)) - ((1 : Int32)))) 12 0 0 ((gI (sI (sI st8 13 0 0 ((gI st8 13 0 0) - ((1 : Int32)))) 4 0 ((gI (sI st8 13 0 0 ((gI st8 13 0 0) - ((1 : Int32)))) 14 f 0).toNatClampNeg) ((gI (sI st8 13 0 0 ((gI st8 13 0 0) - ((1 : Int32)))) 4 0 ((gI (sI st8 13 0 0 ((gI st8 13 0 0) - ((1 : Int32)))) 14 f 0).toNatClampNeg)) - ((1 : Int32)))) 12 0 0) + ((1 : Int32)))) 5 f (((0 : Int32)).toNatClampNeg) 0 0 (((0 : Int32)).toNatClampNeg) (((64 : Int32)).toNatClampNeg)) 6 f (((0 : Int32)).toNatClampNeg) 1 0 (((0 : Int32)).toNatClampNeg) (((8 : Int32)).toNatClampNeg)) 7 0 0 x4)
theorem q_move {a : CwS} {c C : Nat} (hc : c < 8) (hC : C < 8) (v : Int64) : j_Ledger_move (nI c) (nI C) v a = some (bMv a c C v) := by
  unfold j_Ledger_move bMv
  rw [ckn hc (by omega), ckn hc (by omega), ckn hC (by omega), ckn hC (by omega), nI_clamp (by omega), nI_clamp (by omega)]
section
variable (RAN : Nat → Int64 → CwS → Option (Int32 × CwS))
theorem q_L75 {b : CwS} {d f C : Nat} {x4 : Int32} (hc : gI b 13 0 0 = nI d) (hC : gI b 14 f 0 = nI C) (h8 : C < 8) : j_Mo_ranB_L75 RAN f x4 b = bR (j_Mo_goes RAN f (bUp b d C)) fun r7 st8 => mEpi f x4 r7 st8 := by
  unfold j_Mo_ranB_L75
  have e1 : gI (sI b 13 0 0 (nI (d + 1))) 14 f 0 = nI C := hC
  have e0 : gI (sI b 13 0 0 (nI (d + 1))) 4 0 C = gI b 4 0 C := rfl
  have e2 : ∀ v, gI (sI (sI b 13 0 0 (nI (d + 1))) 4 0 C v) 10 0 0 = gI b 10 0 0 := fun _ => rfl
  have e3 : ∀ v, gI (sI (sI b 13 0 0 (nI (d + 1))) 4 0 C v) 13 0 0 = nI (d + 1) := fun _ => rfl
  rw [hc, nI_1, e1, ckn h8 (by omega), ckn h8 (by omega), nI_clamp (by omega), e0, e2, e3]
  rfl
theorem q_ranB {b : CwS} {d f c C : Nat} {v : Int64} (hc : gI b 13 0 0 = nI d) (hC : gI b 14 f 0 = nI C) (h8 : C < 8) (hl : gI b 15 f 0 = nI c) (c8 : c < 8) : j_Mo_ranB RAN f v b = bR (j_Mo_goes RAN f (bUp (bMv (bH b f) c C v) d C)) fun r7 st8 => mEpi f (gI b 7 0 0) r7 st8 := by
  unfold j_Mo_ranB
  have e1 : gI (cL (cL b 0 0 0 5 f 0 64) 1 0 0 6 f 0 8) 15 f 0 = nI c := hl
  have e2 : ∀ w, gI (sL (cL (cL b 0 0 0 5 f 0 64) 1 0 0 6 f 0 8) 1 0 c w) 14 f 0 = nI C := fun _ => hC
  have e3 : gI (cL (cL b 0 0 0 5 f 0 64) 1 0 0 6 f 0 8) 7 0 0 = gI b 7 0 0 := rfl
  rw [ck_t cpk64, ck_t cpk8, z32_0, z32_64, z32_8, e1, if_neg (nI_pos (by omega)), ckn c8 (by omega), ckn c8 (by omega), nI_clamp (by omega), e2, ckn h8 (by omega), ckn h8 (by omega), nI_clamp (by omega), e3]
  exact q_L75 RAN (b := bMv (bH b f) c C v) hc hC h8
theorem q_ranB0 {b : CwS} {d f C : Nat} {v : Int64} (hc : gI b 13 0 0 = nI d) (hC : gI b 14 f 0 = nI C) (h8 : C < 8) (hl : gI b 15 f 0 < 0) : j_Mo_ranB RAN f v b = bR (j_Mo_goes RAN f (bUp (bH b f) d C)) fun r7 st8 => mEpi f (gI b 7 0 0) r7 st8 := by
  unfold j_Mo_ranB
  have e1 : gI (cL (cL b 0 0 0 5 f 0 64) 1 0 0 6 f 0 8) 15 f 0 < 0 := hl
  have e3 : gI (cL (cL b 0 0 0 5 f 0 64) 1 0 0 6 f 0 8) 7 0 0 = gI b 7 0 0 := rfl
  rw [ck_t cpk64, ck_t cpk8, z32_0, z32_64, z32_8, if_pos e1, e3]
  exact q_L75 RAN (b := bH b f) hc hC h8
end
def bEw (s : CwS) (d C : Nat) : CwS := sI (sI (sI s 13 0 0 (nI d)) 4 0 C (gI s 4 0 C - 1)) 11 0 0 (gI s 11 0 0 + 1)
def bEf (s : CwS) (f d C : Nat) (x4 : Int32) : CwS := sI (cL (cL (sI (sI (sI s 13 0 0 (nI d)) 4 0 C (gI s 4 0 C - 1)) 12 0 0 (gI s 12 0 0 + 1)) 5 f 0 0 0 0 64) 6 f 0 1 0 0 8) 7 0 0 x4
theorem mE_w {s : CwS} {d f C : Nat} {x4 : Int32} (hc : gI s 13 0 0 = nI (d + 1)) (hC : gI s 14 f 0 = nI C) (h8 : C < 8) : mEpi f x4 100 s = some (100, bEw s d C) := by
  unfold mEpi
  have e1 : gI (sI s 13 0 0 (nI d)) 14 f 0 = nI C := hC
  have e0 : gI (sI s 13 0 0 (nI d)) 4 0 C = gI s 4 0 C := rfl
  have e2 : ∀ v, gI (sI (sI s 13 0 0 (nI d)) 4 0 C v) 11 0 0 = gI s 11 0 0 := fun _ => rfl
  rw [hc, nI_pred, e1, ckn h8 (by omega), ckn h8 (by omega), nI_clamp (by omega), if_pos rfl, e0, e2]
  rfl
theorem mE_f {s : CwS} {d f C : Nat} {x4 r7 : Int32} (hr : ¬ r7 = 100) (hc : gI s 13 0 0 = nI (d + 1)) (hC : gI s 14 f 0 = nI C) (h8 : C < 8) : mEpi f x4 r7 s = some (r7, bEf s f d C x4) := by
  unfold mEpi
  have e1 : gI (sI s 13 0 0 (nI d)) 14 f 0 = nI C := hC
  have e0 : gI (sI s 13 0 0 (nI d)) 4 0 C = gI s 4 0 C := rfl
  have e2 : ∀ v, gI (sI (sI s 13 0 0 (nI d)) 4 0 C v) 12 0 0 = gI s 12 0 0 := fun _ => rfl
  rw [hc, nI_pred, e1, ckn h8 (by omega), ckn h8 (by omega), nI_clamp (by omega), if_neg hr, ck_t cpk64, ck_t cpk8, z32_0, z32_64, z32_8, e0, e2]
  rfl
