-- CallWalkerModel ran
def j_Mo_ranB_L75 (RAN : Nat → Int64 → CwS → Option (Int32 × CwS)) (x1 : Nat) (x4 : Int32) (st : CwS) : Option (Int32 × CwS) :=
  ck (ix (gI (sI st 13 0 0 ((gI st 13 0 0) + ((1 : Int32)))) 14 x1 0) 8) <|
  ck (ix (gI (sI st 13 0 0 ((gI st 13 0 0) + ((1 : Int32)))) 14 x1 0) 8) <|
  bS (sI (sI (sI st 13 0 0 ((gI st 13 0 0) + ((1 : Int32)))) 4 0 ((gI (sI st 13 0 0 ((gI st 13 0 0) + ((1 : Int32)))) 14 x1 0).toNatClampNeg) ((gI (sI st 13 0 0 ((gI st 13 0 0) + ((1 : Int32)))) 4 0 ((gI (sI st 13 0 0 ((gI st 13 0 0) + ((1 : Int32)))) 14 x1 0).toNatClampNeg)) + ((1 : Int32)))) 10 0 0 (if (gI (sI (sI st 13 0 0 ((gI st 13 0 0) + ((1 : Int32)))) 4 0 ((gI (sI st 13 0 0 ((gI st 13 0 0) + ((1 : Int32)))) 14 x1 0).toNatClampNeg) ((gI (sI st 13 0 0 ((gI st 13 0 0) + ((1 : Int32)))) 4 0 ((gI (sI st 13 0 0 ((gI st 13 0 0) + ((1 : Int32)))) 14 x1 0).toNatClampNeg)) + ((1 : Int32)))) 10 0 0) < (gI (sI (sI st 13 0 0 ((gI st 13 0 0) + ((1 : Int32)))) 4 0 ((gI (sI st 13 0 0 ((gI st 13 0 0) + ((1 : Int32)))) 14 x1 0).toNatClampNeg) ((gI (sI st 13 0 0 ((gI st 13 0 0) + ((1 : Int32)))) 4 0 ((gI (sI st 13 0 0 ((gI st 13 0 0) + ((1 : Int32)))) 14 x1 0).toNatClampNeg)) + ((1 : Int32)))) 13 0 0) then (gI (sI (sI st 13 0 0 ((gI st 13 0 0) + ((1 : Int32)))) 4 0 ((gI (sI st 13 0 0 ((gI st 13 0 0) + ((1 : Int32)))) 14 x1 0).toNatClampNeg) ((gI (sI st 13 0 0 ((gI st 13 0 0) + ((1 : Int32)))) 4 0 ((gI (sI st 13 0 0 ((gI st 13 0 0) + ((1 : Int32)))) 14 x1 0).toNatClampNeg)) + ((1 : Int32)))) 13 0 0) else (gI (sI (sI st 13 0 0 ((gI st 13 0 0) + ((1 : Int32)))) 4 0 ((gI (sI st 13 0 0 ((gI st 13 0 0) + ((1 : Int32)))) 14 x1 0).toNatClampNeg) ((gI (sI st 13 0 0 ((gI st 13 0 0) + ((1 : Int32)))) 4 0 ((gI (sI st 13 0 0 ((gI st 13 0 0) + ((1 : Int32)))) 14 x1 0).toNatClampNeg)) + ((1 : Int32)))) 10 0 0))) fun st6 =>
  bR (j_Mo_goes RAN x1 st6) fun r7 st8 =>
  ck (ix (gI (sI st8 13 0 0 ((gI st8 13 0 0) - ((1 : Int32)))) 14 x1 0) 8) <|
  ck (ix (gI (sI st8 13 0 0 ((gI st8 13 0 0) - ((1 : Int32)))) 14 x1 0) 8) <|
  if r7 = ((100 : Int32)) then
    some ((100 : Int32), sI (sI (sI st8 13 0 0 ((gI st8 13 0 0) - ((1 : Int32)))) 4 0 ((gI (sI st8 13 0 0 ((gI st8 13 0 0) - ((1 : Int32)))) 14 x1 0).toNatClampNeg) ((gI (sI st8 13 0 0 ((gI st8 13 0 0) - ((1 : Int32)))) 4 0 ((gI (sI st8 13 0 0 ((gI st8 13 0 0) - ((1 : Int32)))) 14 x1 0).toNatClampNeg)) - ((1 : Int32)))) 11 0 0 ((gI (sI (sI st8 13 0 0 ((gI st8 13 0 0) - ((1 : Int32)))) 4 0 ((gI (sI st8 13 0 0 ((gI st8 13 0 0) - ((1 : Int32)))) 14 x1 0).toNatClampNeg) ((gI (sI st8 13 0 0 ((gI st8 13 0 0) - ((1 : Int32)))) 4 0 ((gI (sI st8 13 0 0 ((gI st8 13 0 0) - ((1 : Int32)))) 14 x1 0).toNatClampNeg)) - ((1 : Int32)))) 11 0 0) + ((1 : Int32))))
  else
    ck (cpk ((0 : Int32)) ((0 : Int32)) ((64 : Int32)) 64 64) <|
    ck (cpk ((0 : Int32)) ((0 : Int32)) ((8 : Int32)) 8 8) <|
    some (r7, sI (cL (cL (sI (sI (sI st8 13 0 0 ((gI st8 13 0 0) - ((1 : Int32)))) 4 0 ((gI (sI st8 13 0 0 ((gI st8 13 0 0) - ((1 : Int32)))) 14 x1 0).toNatClampNeg) ((gI (sI st8 13 0 0 ((gI st8 13 0 0) - ((1 : Int32)))) 4 0 ((gI (sI st8 13 0 0 ((gI st8 13 0 0) - ((1 : Int32)))) 14 x1 0).toNatClampNeg)) - ((1 : Int32)))) 12 0 0 ((gI (sI (sI st8 13 0 0 ((gI st8 13 0 0) - ((1 : Int32)))) 4 0 ((gI (sI st8 13 0 0 ((gI st8 13 0 0) - ((1 : Int32)))) 14 x1 0).toNatClampNeg) ((gI (sI st8 13 0 0 ((gI st8 13 0 0) - ((1 : Int32)))) 4 0 ((gI (sI st8 13 0 0 ((gI st8 13 0 0) - ((1 : Int32)))) 14 x1 0).toNatClampNeg)) - ((1 : Int32)))) 12 0 0) + ((1 : Int32)))) 5 x1 (((0 : Int32)).toNatClampNeg) 0 0 (((0 : Int32)).toNatClampNeg) (((64 : Int32)).toNatClampNeg)) 6 x1 (((0 : Int32)).toNatClampNeg) 1 0 (((0 : Int32)).toNatClampNeg) (((8 : Int32)).toNatClampNeg)) 7 0 0 x4)
def j_Mo_ranB (RAN : Nat → Int64 → CwS → Option (Int32 × CwS)) (a1 : Nat) (a2 : Int64) (st0 : CwS) : Option (Int32 × CwS) :=
  ck (cpk ((0 : Int32)) ((0 : Int32)) ((64 : Int32)) 64 64) <|
  ck (cpk ((0 : Int32)) ((0 : Int32)) ((8 : Int32)) 8 8) <|
  if (gI (cL (cL st0 0 0 (((0 : Int32)).toNatClampNeg) 5 a1 (((0 : Int32)).toNatClampNeg) (((64 : Int32)).toNatClampNeg)) 1 0 (((0 : Int32)).toNatClampNeg) 6 a1 (((0 : Int32)).toNatClampNeg) (((8 : Int32)).toNatClampNeg)) 15 a1 0) < ((0 : Int32)) then
    j_Mo_ranB_L75 RAN a1 (gI (cL (cL st0 0 0 (((0 : Int32)).toNatClampNeg) 5 a1 (((0 : Int32)).toNatClampNeg) (((64 : Int32)).toNatClampNeg)) 1 0 (((0 : Int32)).toNatClampNeg) 6 a1 (((0 : Int32)).toNatClampNeg) (((8 : Int32)).toNatClampNeg)) 7 0 0) (cL (cL st0 0 0 (((0 : Int32)).toNatClampNeg) 5 a1 (((0 : Int32)).toNatClampNeg) (((64 : Int32)).toNatClampNeg)) 1 0 (((0 : Int32)).toNatClampNeg) 6 a1 (((0 : Int32)).toNatClampNeg) (((8 : Int32)).toNatClampNeg))
  else
    ck (ix (gI (cL (cL st0 0 0 (((0 : Int32)).toNatClampNeg) 5 a1 (((0 : Int32)).toNatClampNeg) (((64 : Int32)).toNatClampNeg)) 1 0 (((0 : Int32)).toNatClampNeg) 6 a1 (((0 : Int32)).toNatClampNeg) (((8 : Int32)).toNatClampNeg)) 15 a1 0) 8) <|
    ck (ix (gI (cL (cL st0 0 0 (((0 : Int32)).toNatClampNeg) 5 a1 (((0 : Int32)).toNatClampNeg) (((64 : Int32)).toNatClampNeg)) 1 0 (((0 : Int32)).toNatClampNeg) 6 a1 (((0 : Int32)).toNatClampNeg) (((8 : Int32)).toNatClampNeg)) 15 a1 0) 8) <|
    ck (ix (gI (sL (cL (cL st0 0 0 (((0 : Int32)).toNatClampNeg) 5 a1 (((0 : Int32)).toNatClampNeg) (((64 : Int32)).toNatClampNeg)) 1 0 (((0 : Int32)).toNatClampNeg) 6 a1 (((0 : Int32)).toNatClampNeg) (((8 : Int32)).toNatClampNeg)) 1 0 ((gI (cL (cL st0 0 0 (((0 : Int32)).toNatClampNeg) 5 a1 (((0 : Int32)).toNatClampNeg) (((64 : Int32)).toNatClampNeg)) 1 0 (((0 : Int32)).toNatClampNeg) 6 a1 (((0 : Int32)).toNatClampNeg) (((8 : Int32)).toNatClampNeg)) 15 a1 0).toNatClampNeg) ((gL (cL (cL st0 0 0 (((0 : Int32)).toNatClampNeg) 5 a1 (((0 : Int32)).toNatClampNeg) (((64 : Int32)).toNatClampNeg)) 1 0 (((0 : Int32)).toNatClampNeg) 6 a1 (((0 : Int32)).toNatClampNeg) (((8 : Int32)).toNatClampNeg)) 1 0 ((gI (cL (cL st0 0 0 (((0 : Int32)).toNatClampNeg) 5 a1 (((0 : Int32)).toNatClampNeg) (((64 : Int32)).toNatClampNeg)) 1 0 (((0 : Int32)).toNatClampNeg) 6 a1 (((0 : Int32)).toNatClampNeg) (((8 : Int32)).toNatClampNeg)) 15 a1 0).toNatClampNeg)) - a2)) 14 a1 0) 8) <|
    ck (ix (gI (sL (cL (cL st0 0 0 (((0 : Int32)).toNatClampNeg) 5 a1 (((0 : Int32)).toNatClampNeg) (((64 : Int32)).toNatClampNeg)) 1 0 (((0 : Int32)).toNatClampNeg) 6 a1 (((0 : Int32)).toNatClampNeg) (((8 : Int32)).toNatClampNeg)) 1 0 ((gI (cL (cL st0 0 0 (((0 : Int32)).toNatClampNeg) 5 a1 (((0 : Int32)).toNatClampNeg) (((64 : Int32)).toNatClampNeg)) 1 0 (((0 : Int32)).toNatClampNeg) 6 a1 (((0 : Int32)).toNatClampNeg) (((8 : Int32)).toNatClampNeg)) 15 a1 0).toNatClampNeg) ((gL (cL (cL st0 0 0 (((0 : Int32)).toNatClampNeg) 5 a1 (((0 : Int32)).toNatClampNeg) (((64 : Int32)).toNatClampNeg)) 1 0 (((0 : Int32)).toNatClampNeg) 6 a1 (((0 : Int32)).toNatClampNeg) (((8 : Int32)).toNatClampNeg)) 1 0 ((gI (cL (cL st0 0 0 (((0 : Int32)).toNatClampNeg) 5 a1 (((0 : Int32)).toNatClampNeg) (((64 : Int32)).toNatClampNeg)) 1 0 (((0 : Int32)).toNatClampNeg) 6 a1 (((0 : Int32)).toNatClampNeg) (((8 : Int32)).toNatClampNeg)) 15 a1 0).toNatClampNeg)) - a2)) 14 a1 0) 8) <|
    j_Mo_ranB_L75 RAN a1 (gI (cL (cL st0 0 0 (((0 : Int32)).toNatClampNeg) 5 a1 (((0 : Int32)).toNatClampNeg) (((64 : Int32)).toNatClampNeg)) 1 0 (((0 : Int32)).toNatClampNeg) 6 a1 (((0 : Int32)).toNatClampNeg) (((8 : Int32)).toNatClampNeg)) 7 0 0) (sL (sL (cL (cL st0 0 0 (((0 : Int32)).toNatClampNeg) 5 a1 (((0 : Int32)).toNatClampNeg) (((64 : Int32)).toNatClampNeg)) 1 0 (((0 : Int32)).toNatClampNeg) 6 a1 (((0 : Int32)).toNatClampNeg) (((8 : Int32)).toNatClampNeg)) 1 0 ((gI (cL (cL st0 0 0 (((0 : Int32)).toNatClampNeg) 5 a1 (((0 : Int32)).toNatClampNeg) (((64 : Int32)).toNatClampNeg)) 1 0 (((0 : Int32)).toNatClampNeg) 6 a1 (((0 : Int32)).toNatClampNeg) (((8 : Int32)).toNatClampNeg)) 15 a1 0).toNatClampNeg) ((gL (cL (cL st0 0 0 (((0 : Int32)).toNatClampNeg) 5 a1 (((0 : Int32)).toNatClampNeg) (((64 : Int32)).toNatClampNeg)) 1 0 (((0 : Int32)).toNatClampNeg) 6 a1 (((0 : Int32)).toNatClampNeg) (((8 : Int32)).toNatClampNeg)) 1 0 ((gI (cL (cL st0 0 0 (((0 : Int32)).toNatClampNeg) 5 a1 (((0 : Int32)).toNatClampNeg) (((64 : Int32)).toNatClampNeg)) 1 0 (((0 : Int32)).toNatClampNeg) 6 a1 (((0 : Int32)).toNatClampNeg) (((8 : Int32)).toNatClampNeg)) 15 a1 0).toNatClampNeg)) - a2)) 1 0 ((gI (sL (cL (cL st0 0 0 (((0 : Int32)).toNatClampNeg) 5 a1 (((0 : Int32)).toNatClampNeg) (((64 : Int32)).toNatClampNeg)) 1 0 (((0 : Int32)).toNatClampNeg) 6 a1 (((0 : Int32)).toNatClampNeg) (((8 : Int32)).toNatClampNeg)) 1 0 ((gI (cL (cL st0 0 0 (((0 : Int32)).toNatClampNeg) 5 a1 (((0 : Int32)).toNatClampNeg) (((64 : Int32)).toNatClampNeg)) 1 0 (((0 : Int32)).toNatClampNeg) 6 a1 (((0 : Int32)).toNatClampNeg) (((8 : Int32)).toNatClampNeg)) 15 a1 0).toNatClampNeg) ((gL (cL (cL st0 0 0 (((0 : Int32)).toNatClampNeg) 5 a1 (((0 : Int32)).toNatClampNeg) (((64 : Int32)).toNatClampNeg)) 1 0 (((0 : Int32)).toNatClampNeg) 6 a1 (((0 : Int32)).toNatClampNeg) (((8 : Int32)).toNatClampNeg)) 1 0 ((gI (cL (cL st0 0 0 (((0 : Int32)).toNatClampNeg) 5 a1 (((0 : Int32)).toNatClampNeg) (((64 : Int32)).toNatClampNeg)) 1 0 (((0 : Int32)).toNatClampNeg) 6 a1 (((0 : Int32)).toNatClampNeg) (((8 : Int32)).toNatClampNeg)) 15 a1 0).toNatClampNeg)) - a2)) 14 a1 0).toNatClampNeg) ((gL (sL (cL (cL st0 0 0 (((0 : Int32)).toNatClampNeg) 5 a1 (((0 : Int32)).toNatClampNeg) (((64 : Int32)).toNatClampNeg)) 1 0 (((0 : Int32)).toNatClampNeg) 6 a1 (((0 : Int32)).toNatClampNeg) (((8 : Int32)).toNatClampNeg)) 1 0 ((gI (cL (cL st0 0 0 (((0 : Int32)).toNatClampNeg) 5 a1 (((0 : Int32)).toNatClampNeg) (((64 : Int32)).toNatClampNeg)) 1 0 (((0 : Int32)).toNatClampNeg) 6 a1 (((0 : Int32)).toNatClampNeg) (((8 : Int32)).toNatClampNeg)) 15 a1 0).toNatClampNeg) ((gL (cL (cL st0 0 0 (((0 : Int32)).toNatClampNeg) 5 a1 (((0 : Int32)).toNatClampNeg) (((64 : Int32)).toNatClampNeg)) 1 0 (((0 : Int32)).toNatClampNeg) 6 a1 (((0 : Int32)).toNatClampNeg) (((8 : Int32)).toNatClampNeg)) 1 0 ((gI (cL (cL st0 0 0 (((0 : Int32)).toNatClampNeg) 5 a1 (((0 : Int32)).toNatClampNeg) (((64 : Int32)).toNatClampNeg)) 1 0 (((0 : Int32)).toNatClampNeg) 6 a1 (((0 : Int32)).toNatClampNeg) (((8 : Int32)).toNatClampNeg)) 15 a1 0).toNatClampNeg)) - a2)) 1 0 ((gI (sL (cL (cL st0 0 0 (((0 : Int32)).toNatClampNeg) 5 a1 (((0 : Int32)).toNatClampNeg) (((64 : Int32)).toNatClampNeg)) 1 0 (((0 : Int32)).toNatClampNeg) 6 a1 (((0 : Int32)).toNatClampNeg) (((8 : Int32)).toNatClampNeg)) 1 0 ((gI (cL (cL st0 0 0 (((0 : Int32)).toNatClampNeg) 5 a1 (((0 : Int32)).toNatClampNeg) (((64 : Int32)).toNatClampNeg)) 1 0 (((0 : Int32)).toNatClampNeg) 6 a1 (((0 : Int32)).toNatClampNeg) (((8 : Int32)).toNatClampNeg)) 15 a1 0).toNatClampNeg) ((gL (cL (cL st0 0 0 (((0 : Int32)).toNatClampNeg) 5 a1 (((0 : Int32)).toNatClampNeg) (((64 : Int32)).toNatClampNeg)) 1 0 (((0 : Int32)).toNatClampNeg) 6 a1 (((0 : Int32)).toNatClampNeg) (((8 : Int32)).toNatClampNeg)) 1 0 ((gI (cL (cL st0 0 0 (((0 : Int32)).toNatClampNeg) 5 a1 (((0 : Int32)).toNatClampNeg) (((64 : Int32)).toNatClampNeg)) 1 0 (((0 : Int32)).toNatClampNeg) 6 a1 (((0 : Int32)).toNatClampNeg) (((8 : Int32)).toNatClampNeg)) 15 a1 0).toNatClampNeg)) - a2)) 14 a1 0).toNatClampNeg)) + a2))
set_option maxHeartbeats 4000000 in
theorem x_Mo_ranB_L75 {RAN : Nat → Int64 → CwS → Option (Int32 × CwS)} (hRx : ∀ (f : Nat) (v : Int64) (st : CwS) (r : Int32) (st' : CwS), RAN f v st = some (r, st') → Ext st st') {x1 : Nat} {x4 : Int32} {st : CwS} {r : Int32} {st' : CwS} (h : j_Mo_ranB_L75 RAN x1 x4 st = some (r, st')) : Ext st st' := by
  unfold j_Mo_ranB_L75 at h
  obtain ⟨-, h⟩ := ck_some h
  obtain ⟨-, h⟩ := ck_some h
  obtain ⟨st6, e_st6, h⟩ := bS_some h
  refine Ext.trans (b := st6) (by rw [e_st6]; exact (show Ext st _ from Ext.refl st)) ?_
  obtain ⟨r7, st8, h9, h⟩ := bR_some h
  refine Ext.trans (a := st6) (b := st8) (by have t := x_Mo_goes hRx h9; exact t) ?_
  obtain ⟨-, h⟩ := ck_some h
  obtain ⟨-, h⟩ := ck_some h
  by_cases c12 : r7 = ((100 : Int32))
  · have h := ite_t c12 h
    obtain ⟨-, rfl⟩ := ret2 h; exact (show Ext st8 _ from Ext.refl st8)
  · have h := ite_f c12 h
    obtain ⟨-, h⟩ := ck_some h
    obtain ⟨-, h⟩ := ck_some h
    obtain ⟨-, rfl⟩ := ret2 h; exact (show Ext st8 _ from Ext.refl st8)
set_option maxHeartbeats 4000000 in
theorem x_Mo_ranB {RAN : Nat → Int64 → CwS → Option (Int32 × CwS)} (hRx : ∀ (f : Nat) (v : Int64) (st : CwS) (r : Int32) (st' : CwS), RAN f v st = some (r, st') → Ext st st') {a1 : Nat} {a2 : Int64} {st0 : CwS} {r : Int32} {st' : CwS} (h : j_Mo_ranB RAN a1 a2 st0 = some (r, st')) : Ext st0 st' := by
  unfold j_Mo_ranB at h
  obtain ⟨-, h⟩ := ck_some h
  obtain ⟨-, h⟩ := ck_some h
  by_cases c3 : (gI (cL (cL st0 0 0 (((0 : Int32)).toNatClampNeg) 5 a1 (((0 : Int32)).toNatClampNeg) (((64 : Int32)).toNatClampNeg)) 1 0 (((0 : Int32)).toNatClampNeg) 6 a1 (((0 : Int32)).toNatClampNeg) (((8 : Int32)).toNatClampNeg)) 15 a1 0) < ((0 : Int32))
  · have h := ite_t c3 h
    have t := x_Mo_ranB_L75 hRx h; exact (show Ext st0 _ from t)
  · have h := ite_f c3 h
    obtain ⟨-, h⟩ := ck_some h
    obtain ⟨-, h⟩ := ck_some h
    obtain ⟨-, h⟩ := ck_some h
    obtain ⟨-, h⟩ := ck_some h
    have t := x_Mo_ranB_L75 hRx h; exact (show Ext st0 _ from t)
set_option maxHeartbeats 4000000 in
set_option maxRecDepth 100000 in
theorem c_Mo_ranB_L75 {l : Launch} {D : va_G} {A : Nat → Prop} {b0 : Nat} {cA : Nat → ClassId} {RAN : Nat → Int64 → CwS → Option (Int32 × CwS)} {d : Nat} (hRx : ∀ (f : Nat) (v : Int64) (st : CwS) (r : Int32) (st' : CwS), RAN f v st = some (r, st') → Ext st st') (hRc : ∀ (st0 : CwS) (f fa : Nat) (hf : rfF st0 f fa) (v : Int64) (r : Int32) (st' : CwS), RAN f v st0 = some (r, st') → Met l yX9_ran (wv yX9_ran cX9_ran 6 (some .int)) ({ frames := 5 * d + 10, cells := gR st' 101 2 - gR st0 101 2, slots := gR st' 101 3 - gR st0 101 3, locals := 139 * d + 200 }) (va_Pc [.ref b0, .ref fa, .long v] (rfU D A b0 cA st0)) (rfQi D A b0 cA r st') (gR st' 101 2 - gR st0 101 2) (gR st' 101 3 - gR st0 101 3) A) {p : Program} {e : Env} {s : State} {m : MethodId} {args : Array Value} {below : List Frame} {meth : Method} {c : Code} (S : CallFix p m c cX9_ran 6 s args (wv yX9_ran cX9_ran 6 (some .int)) RX9) (hr : meth.sig.returnType = some .int) (hlocks : meth.locks = false) (hK : rfK D cA s) (r : Int32) (st' : CwS) (st0 : CwS) (st : CwS) (x1 : Nat) (fx1 : Nat) (hf_fx1 : rfF st x1 fx1) (x4 : Int32) (H : Heap) (locs : List Loc) (ls : Array Slot) (h : j_Mo_ranB_L75 RAN x1 x4 st = some (r, st')) (hO : rfO D A b0 cA s st H locs) (hl : lv_has ls 6 [(0, .ref b0), (1, .ref fx1), (4, .int x4)]) (E_st : Ext st0 st) : W p l e ({ frames := 5 * d + 15, cells := gR st' 101 2 - gR st0 101 2, slots := gR st' 101 3 - gR st0 101 3, locals := 139 * d + 339 }) s m args below meth c H locs (gR st 101 2 - gR st0 101 2) (gR st 101 3 - gR st0 101 3) (MQ below (rfQi D A b0 cA r st') args s (gR st' 101 2 - gR st0 101 2) (gR st' 101 3 - gR st0 101 3) A) (F0 m 75 ls []) := by
  obtain ⟨hx, hb, hml, hown, hts⟩ := S
  have hgw := fun (w : Cond) (h : w ∈ gwW) => hts w (List.mem_cons_of_mem _ h)
  have k23 := hgw _ w_3c9d41c6
  have k27 := hgw _ w_84119660
  have k30 := hgw _ w_9377dda0
  have k67 := hgw _ w_1c4b90a6
  have k128 := hgw _ w_e76b45dd
  have k134 := hgw _ w_f9b58dc7
  have k156 := hgw _ w_f30ac9b6
  have k172 := hgw _ w_794b17b8
  have k187 := hgw _ w_cdd050e4
  have k190 := hgw _ w_79e074cf
  have k193 := hgw _ w_6cc0f4a7
  have k196 := hgw _ w_33f50f97
  have k203 := hgw _ w_6c3d7dd0
  have k206 := hgw _ w_81fdb2eb
  unfold j_Mo_ranB_L75 at h
  refine lv_aload_n hx hb dX9_ran_75 rfl (lv_at hl 0 rfl) ?_
  refine lv_dup hx hb dX9_ran_76 rfl ?_
  refine gf_Mo_calls hx hb hgw iwMo hown hK hO k156 dX9_ran_77 ?_
  refine lv_iconst (v := 1) hx hb dX9_ran_80 (by decide) ?_
  refine lv_iadd hx hb dX9_ran_81 ?_
  refine pf_Mo_calls hx hb hgw iwMo hown hK hO k156 dX9_ran_82 (fun H locs hO => ?_)
  refine lv_aload_n hx hb dX9_ran_85 rfl (lv_at hl 0 rfl) ?_
  refine gf_Mo_under hx hb hgw iwMo hown hK hO k30 dX9_ran_86 ?_
  refine lv_aload_n hx hb dX9_ran_89 rfl (lv_at hl 1 rfl) ?_
  refine gf_MF_contract hx hb hgw iwMF hown hK hO hf_fx1 k67 dX9_ran_90 ?_
  refine lv_dup2_11 hx hb dX9_ran_93 rfl rfl ?_
  obtain ⟨hc4, h⟩ := ck_some h
  refine al_MUnder hx hb hK hO hc4 dX9_ran_94 ?_
  refine lv_iconst (v := 1) hx hb dX9_ran_95 (by decide) ?_
  refine lv_iadd hx hb dX9_ran_96 ?_
  obtain ⟨hc5, h⟩ := ck_some h
  refine as_MUnder hx hb hK hO hc5 dX9_ran_97 (fun H locs hO => ?_)
  refine lv_aload_n hx hb dX9_ran_98 rfl (lv_at hl 0 rfl) ?_
  refine lv_aload_n hx hb dX9_ran_99 rfl (lv_at hl 0 rfl) ?_
  refine gf_Mo_most hx hb hgw iwMo hown hK hO k193 dX9_ran_100 ?_
  refine lv_aload_n hx hb dX9_ran_103 rfl (lv_at hl 0 rfl) ?_
  refine gf_Mo_calls hx hb hgw iwMo hown hK hO k156 dX9_ran_104 ?_
  have ymm19 : Ext st st' := by
    obtain ⟨st6, e_st6, h⟩ := bS_some h
    refine Ext.trans (b := st6) (by rw [e_st6]; exact (show Ext st _ from Ext.refl st)) ?_
    obtain ⟨r7, st8, h9, h⟩ := bR_some h
    refine Ext.trans (a := st6) (b := st8) (by have t := x_Mo_goes hRx h9; exact t) ?_
    obtain ⟨-, h⟩ := ck_some h
    obtain ⟨-, h⟩ := ck_some h
    by_cases c12 : r7 = ((100 : Int32))
    · have h := ite_t c12 h
      obtain ⟨-, rfl⟩ := ret2 h; exact (show Ext st8 _ from Ext.refl st8)
    · have h := ite_f c12 h
      obtain ⟨-, h⟩ := ck_some h
      obtain ⟨-, h⟩ := ck_some h
      obtain ⟨-, rfl⟩ := ret2 h; exact (show Ext st8 _ from Ext.refl st8)
  refine va_mmax hx hb (by rw [hml]; exact hl.1.symm) hown k196 (hgw _ w_80a2ec50) (hgw _ w_868a9286) (hgw _ w_b6349a14) (by show 1 ≤ 5 * d + 15; omega) (Nat.le_trans (Nat.le_of_ble_eq_true rfl : _ ≤ 40) (by show 40 ≤ 139 * d + 339; omega)) (by have q1 := E_st; have q2 := ymm19; unfold Ext at q1 q2; show gR st 101 2 - gR st0 101 2 ≤ gR st' 101 2 - gR st0 101 2; omega) (by have q1 := E_st; have q2 := ymm19; unfold Ext at q1 q2; show gR st 101 3 - gR st0 101 3 ≤ gR st' 101 3 - gR st0 101 3; omega) dX9_ran_107 ?_
  refine pf_Mo_most hx hb hgw iwMo hown hK hO k193 dX9_ran_110 (fun H locs hO => ?_)
  refine lv_aload_n hx hb dX9_ran_113 rfl (lv_at hl 0 rfl) ?_
  refine lv_aload_n hx hb dX9_ran_114 rfl (lv_at hl 1 rfl) ?_
  obtain ⟨st6, e_st6, h⟩ := bS_some h
  rw [← e_st6] at hO
  have E_st6 : Ext st0 st6 := E_st.trans (by rw [e_st6]; exact (show Ext st _ from Ext.refl st))
  have hf_fx1 : rfF st6 x1 fx1 := by rw [e_st6]; exact hf_fx1
  refine W.widen (k := gR st6 101 2 - gR st0 101 2) (n := gR st6 101 3 - gR st0 101 3) (by rw [e_st6]; exact Nat.le_refl _) (by rw [e_st6]; exact Nat.le_refl _) ?_
  have y_st8 : Ext st6 st' := by
    obtain ⟨r7, st8, h9, h⟩ := bR_some h
    refine Ext.trans (a := st6) (b := st8) (by have t := x_Mo_goes hRx h9; exact t) ?_
    obtain ⟨-, h⟩ := ck_some h
    obtain ⟨-, h⟩ := ck_some h
    by_cases c12 : r7 = ((100 : Int32))
    · have h := ite_t c12 h
      obtain ⟨-, rfl⟩ := ret2 h; exact (show Ext st8 _ from Ext.refl st8)
    · have h := ite_f c12 h
      obtain ⟨-, h⟩ := ck_some h
      obtain ⟨-, h⟩ := ck_some h
      obtain ⟨-, rfl⟩ := ret2 h; exact (show Ext st8 _ from Ext.refl st8)
  obtain ⟨r7, st8, h9, h⟩ := bR_some h
  have x_st8 : Ext st6 st8 := by have t := x_Mo_goes hRx h9; exact t
  have y2_st8 : Ext st8 st' := by
    obtain ⟨-, h⟩ := ck_some h
    obtain ⟨-, h⟩ := ck_some h
    by_cases c12 : r7 = ((100 : Int32))
    · have h := ite_t c12 h
      obtain ⟨-, rfl⟩ := ret2 h; exact (show Ext st8 _ from Ext.refl st8)
    · have h := ite_f c12 h
      obtain ⟨-, h⟩ := ck_some h
      obtain ⟨-, h⟩ := ck_some h
      obtain ⟨-, rfl⟩ := ret2 h; exact (show Ext st8 _ from Ext.refl st8)
  refine rf_calli (va_runV (As := [.ref fx1]) (rest := []) ⟨hx, hb, hml, hown, hts⟩ (c_Mo_goes l D A b0 cA RAN d hRx hRc st6 x1 fx1 hf_fx1 r7 st8 h9) (cwV 1 hts (gw_V w_828ba394 w_6694c3a7 w_8aab7d39 w_18f41a94 w_390cdf0e) rfl rfl rfl (by decide +kernel) ⟨by show (5 * d + 14) + 1 ≤ 5 * d + 15; omega, by show 8 + (6 + 11) + (139 * d + 314) ≤ 139 * d + 339; omega⟩) (rf_preM hK hO) rfl rfl hl.1 rfl (lv_room (Nat.le_of_ble_eq_true rfl)) dX9_ran_115 ⟨by have q1 := E_st6; have q2 := x_st8; have q3 := y2_st8; unfold Ext at q1 q2 q3; show (gR st6 101 2 - gR st0 101 2) + (gR st8 101 2 - gR st6 101 2) ≤ gR st' 101 2 - gR st0 101 2; omega, by have q1 := E_st6; have q2 := x_st8; have q3 := y2_st8; unfold Ext at q1 q2 q3; show (gR st6 101 3 - gR st0 101 3) + (gR st8 101 3 - gR st6 101 3) ≤ gR st' 101 3 - gR st0 101 3; omega⟩) hO (fun H locs hO => ?_)
  have hf_fx1 : rfF st8 x1 fx1 := rfF.ext (show rfF st6 x1 fx1 from hf_fx1) x_st8
  have E_st8 : Ext st0 st8 := E_st6.trans x_st8
  refine W.widen (k := gR st8 101 2 - gR st0 101 2) (n := gR st8 101 3 - gR st0 101 3) (by have q1 := E_st6; have q2 := x_st8; unfold Ext at q1 q2; omega) (by have q1 := E_st6; have q2 := x_st8; unfold Ext at q1 q2; omega) ?_
  refine lv_istore (lv' := [(5, .int r7), (0, .ref b0), (1, .ref fx1), (4, .int x4)]) hx hb dX9_ran_118 hl (by decide) rfl (fun ls hl => ?_)
  refine lv_aload_n hx hb dX9_ran_120 rfl (lv_at hl 1 rfl) ?_
  refine lv_dup hx hb dX9_ran_121 rfl ?_
  refine gf_Mo_calls hx hb hgw iwMo hown hK hO k156 dX9_ran_122 ?_
  refine lv_iconst (v := 1) hx hb dX9_ran_125 (by decide) ?_
  refine lv_isub hx hb dX9_ran_126 ?_
  refine pf_Mo_calls hx hb hgw iwMo hown hK hO k156 dX9_ran_127 (fun H locs hO => ?_)
  refine lv_aload_n hx hb dX9_ran_130 rfl (lv_at hl 1 rfl) ?_
  refine gf_Mo_under hx hb hgw iwMo hown hK hO k30 dX9_ran_131 ?_
  refine lv_aload_n hx hb dX9_ran_134 rfl (lv_at hl 2 rfl) ?_
  refine gf_MF_contract hx hb hgw iwMF hown hK hO hf_fx1 k67 dX9_ran_135 ?_
  refine lv_dup2_11 hx hb dX9_ran_138 rfl rfl ?_
  obtain ⟨hc10, h⟩ := ck_some h
  refine al_MUnder hx hb hK hO hc10 dX9_ran_139 ?_
  refine lv_iconst (v := 1) hx hb dX9_ran_140 (by decide) ?_
  refine lv_isub hx hb dX9_ran_141 ?_
  obtain ⟨hc11, h⟩ := ck_some h
  refine as_MUnder hx hb hK hO hc11 dX9_ran_142 (fun H locs hO => ?_)
  refine lv_iload hx hb dX9_ran_143 (lv_at hl 0 rfl) ?_
  refine lv_bipush (v := 100) hx hb dX9_ran_145 (by decide) ?_
  refine lv_icmp_ne (tgt := 163) hx hb dX9_ran_147 (by decide) (fun c12 => ?_) (fun c12 => ?_)
  · have h := ite_f c12 h
    refine lv_aload_n hx hb dX9_ran_163 rfl (lv_at hl 1 rfl) ?_
    refine lv_dup hx hb dX9_ran_164 rfl ?_
    refine gf_Mo_undone hx hb hgw iwMo hown hK hO k206 dX9_ran_165 ?_
    refine lv_iconst (v := 1) hx hb dX9_ran_168 (by decide) ?_
    refine lv_iadd hx hb dX9_ran_169 ?_
    refine pf_Mo_undone hx hb hgw iwMo hown hK hO k206 dX9_ran_170 (fun H locs hO => ?_)
    refine lv_aload_n hx hb dX9_ran_173 rfl (lv_at hl 2 rfl) ?_
    refine gf_MF_hadLeaves hx hb hgw iwMF hown hK hO hf_fx1 k187 dX9_ran_174 ?_
    refine lv_iconst (v := 0) hx hb dX9_ran_177 (by decide) ?_
    refine lv_aload_n hx hb dX9_ran_178 rfl (lv_at hl 1 rfl) ?_
    refine gf_Mo_leaves hx hb hgw iwMo hown hK hO k23 dX9_ran_179 ?_
    refine lv_iconst (v := 0) hx hb dX9_ran_182 (by decide) ?_
    refine lv_aload_n hx hb dX9_ran_183 rfl (lv_at hl 1 rfl) ?_
    refine gf_Mo_leaves hx hb hgw iwMo hown hK hO k23 dX9_ran_184 ?_
    refine an_MLeaves hx hb hK hO dX9_ran_187 ?_
    obtain ⟨hc13, h⟩ := ck_some h
    refine ac_MHadL_MLeaves hx hb (by rw [hml]; exact hl.1.symm) hown k172 (hgw _ w_a648c8f7) (hgw _ w_410d49e2) (hgw _ w_4260ffab) hK hO hf_fx1 hc13 (by show 1 ≤ 5 * d + 15; omega) (Nat.le_trans (Nat.le_of_ble_eq_true rfl : _ ≤ 40) (by show 40 ≤ 139 * d + 339; omega)) dX9_ran_188 (fun H locs hO => ?_)
    refine lv_aload_n hx hb dX9_ran_191 rfl (lv_at hl 2 rfl) ?_
    refine gf_MF_hadBalances hx hb hgw iwMF hown hK hO hf_fx1 k190 dX9_ran_192 ?_
    refine lv_iconst (v := 0) hx hb dX9_ran_195 (by decide) ?_
    refine lv_aload_n hx hb dX9_ran_196 rfl (lv_at hl 1 rfl) ?_
    refine gf_Mo_balances hx hb hgw iwMo hown hK hO k27 dX9_ran_197 ?_
    refine lv_iconst (v := 0) hx hb dX9_ran_200 (by decide) ?_
    refine lv_aload_n hx hb dX9_ran_201 rfl (lv_at hl 1 rfl) ?_
    refine gf_Mo_balances hx hb hgw iwMo hown hK hO k27 dX9_ran_202 ?_
    refine an_MBals hx hb hK hO dX9_ran_205 ?_
    obtain ⟨hc14, h⟩ := ck_some h
    refine ac_MHadB_MBals hx hb (by rw [hml]; exact hl.1.symm) hown k172 (hgw _ w_a648c8f7) (hgw _ w_410d49e2) (hgw _ w_4260ffab) hK hO hf_fx1 hc14 (by show 1 ≤ 5 * d + 15; omega) (Nat.le_trans (Nat.le_of_ble_eq_true rfl : _ ≤ 40) (by show 40 ≤ 139 * d + 339; omega)) dX9_ran_206 (fun H locs hO => ?_)
    refine lv_aload_n hx hb dX9_ran_209 rfl (lv_at hl 1 rfl) ?_
    refine lv_iload hx hb dX9_ran_210 (lv_at hl 3 rfl) ?_
    refine pf_Mo_events hx hb hgw iwMo hown hK hO k128 dX9_ran_212 (fun H locs hO => ?_)
    refine lv_iload hx hb dX9_ran_215 (lv_at hl 0 rfl) ?_
    obtain ⟨rfl, rfl⟩ := ret2 h; exact rf_iret hx hb hr hlocks hO dX9_ran_217
  · have h := ite_t c12 h
    refine lv_aload_n hx hb dX9_ran_150 rfl (lv_at hl 1 rfl) ?_
    refine lv_dup hx hb dX9_ran_151 rfl ?_
    refine gf_Mo_well hx hb hgw iwMo hown hK hO k203 dX9_ran_152 ?_
    refine lv_iconst (v := 1) hx hb dX9_ran_155 (by decide) ?_
    refine lv_iadd hx hb dX9_ran_156 ?_
    refine pf_Mo_well hx hb hgw iwMo hown hK hO k203 dX9_ran_157 (fun H locs hO => ?_)
    refine lv_bipush (v := 100) hx hb dX9_ran_160 (by decide) ?_
    obtain ⟨rfl, rfl⟩ := ret2 h; exact rf_iret hx hb hr hlocks hO dX9_ran_162
set_option maxHeartbeats 4000000 in
set_option maxRecDepth 100000 in
theorem c_Mo_ranB (l : Launch) (D : va_G) (A : Nat → Prop) (b0 : Nat) (cA : Nat → ClassId) (RAN : Nat → Int64 → CwS → Option (Int32 × CwS)) (d : Nat) (hRx : ∀ (f : Nat) (v : Int64) (st : CwS) (r : Int32) (st' : CwS), RAN f v st = some (r, st') → Ext st st') (hRc : ∀ (st0 : CwS) (f fa : Nat) (hf : rfF st0 f fa) (v : Int64) (r : Int32) (st' : CwS), RAN f v st0 = some (r, st') → Met l yX9_ran (wv yX9_ran cX9_ran 6 (some .int)) ({ frames := 5 * d + 10, cells := gR st' 101 2 - gR st0 101 2, slots := gR st' 101 3 - gR st0 101 3, locals := 139 * d + 200 }) (va_Pc [.ref b0, .ref fa, .long v] (rfU D A b0 cA st0)) (rfQi D A b0 cA r st') (gR st' 101 2 - gR st0 101 2) (gR st' 101 3 - gR st0 101 3) A) (st0 : CwS) (a1 : Nat) (fa1 : Nat) (hf_fa1 : rfF st0 a1 fa1) (a2 : Int64) (r : Int32) (st' : CwS) (h : j_Mo_ranB RAN a1 a2 st0 = some (r, st')) : Met l yX9_ran (wv yX9_ran cX9_ran 6 (some .int)) ({ frames := 5 * d + 15, cells := gR st' 101 2 - gR st0 101 2, slots := gR st' 101 3 - gR st0 101 3, locals := 139 * d + 339 }) (va_Pc [.ref b0, .ref fa1, .long a2] (rfU D A b0 cA st0)) (rfQi D A b0 cA r st') (gR st' 101 2 - gR st0 101 2) (gR st' 101 3 - gR st0 101 3) A := by
  refine Met.ofW (cc := cX9_ran) (maxL := 6) (ret := some .int) (by decide) rfl ?_
  intro p e s m args below meth c s₁ B hml hv
  obtain ⟨rfl, hP, hD, hz, hK⟩ := hv
  have hx := B.exec
  have hb := B.bytes
  have hr := B.returns
  have hts := atoms_spec (ws := wv yX9_ran cX9_ran 6 (some .int)) B.pre
  have hown : s.vm.findClass RX9 = some m.cls := findClass_of_methodNamed B.named
  have hlocks := B.notSynchronized
  have hO : rfO D A b0 cA s st0 s.heap [] := ⟨hP, hD, va_S.rf, hz⟩
  have hl := lv_entry ([.ref b0, .ref fa1, .long a2]) (n := 6) (Nat.le_of_ble_eq_true rfl)
  rw [lg_entry_eq]
  generalize (lg_sl ([.ref b0, .ref fa1, .long a2]) ++ List.replicate (6 - (lg_sl ([.ref b0, .ref fa1, .long a2])).length) Slot.unset).toArray = ls at hl ⊢
  have hl : lv_has ls 6 [(0, .ref b0), (1, .ref fa1), (2, .long a2)] := hl
  have hgw := fun (w : Cond) (h : w ∈ gwW) => hts w (List.mem_cons_of_mem _ h)
  have k23 := hgw _ w_3c9d41c6
  have k27 := hgw _ w_84119660
  have k30 := hgw _ w_9377dda0
  have k67 := hgw _ w_1c4b90a6
  have k128 := hgw _ w_e76b45dd
  have k134 := hgw _ w_f9b58dc7
  have k156 := hgw _ w_f30ac9b6
  have k172 := hgw _ w_794b17b8
  have k187 := hgw _ w_cdd050e4
  have k190 := hgw _ w_79e074cf
  have k193 := hgw _ w_6cc0f4a7
  have k196 := hgw _ w_33f50f97
  have k203 := hgw _ w_6c3d7dd0
  have k206 := hgw _ w_81fdb2eb
  unfold j_Mo_ranB at h
  have E_st0 := Ext.refl st0
  refine W.widen (k := gR st0 101 2 - gR st0 101 2) (n := gR st0 101 3 - gR st0 101 3) (Nat.zero_le _) (Nat.zero_le _) ?_
  refine lv_aload_n hx hb dX9_ran_0 rfl (lv_at hl 0 rfl) ?_
  refine gf_Mo_leaves hx hb hgw iwMo hown hK hO k23 dX9_ran_1 ?_
  refine lv_iconst (v := 0) hx hb dX9_ran_4 (by decide) ?_
  refine lv_aload_n hx hb dX9_ran_5 rfl (lv_at hl 1 rfl) ?_
  refine gf_MF_hadLeaves hx hb hgw iwMF hown hK hO hf_fa1 k187 dX9_ran_6 ?_
  refine lv_iconst (v := 0) hx hb dX9_ran_9 (by decide) ?_
  refine lv_aload_n hx hb dX9_ran_10 rfl (lv_at hl 0 rfl) ?_
  refine gf_Mo_leaves hx hb hgw iwMo hown hK hO k23 dX9_ran_11 ?_
  refine an_MLeaves hx hb hK hO dX9_ran_14 ?_
  obtain ⟨hc1, h⟩ := ck_some h
  refine ac_MLeaves_MHadL hx hb (by rw [hml]; exact hl.1.symm) hown k172 (hgw _ w_a648c8f7) (hgw _ w_410d49e2) (hgw _ w_4260ffab) hK hO hf_fa1 hc1 (by show 1 ≤ 5 * d + 15; omega) (Nat.le_trans (Nat.le_of_ble_eq_true rfl : _ ≤ 40) (by show 40 ≤ 139 * d + 339; omega)) dX9_ran_15 (fun H locs hO => ?_)
  refine lv_aload_n hx hb dX9_ran_18 rfl (lv_at hl 0 rfl) ?_
  refine gf_Mo_balances hx hb hgw iwMo hown hK hO k27 dX9_ran_19 ?_
  refine lv_iconst (v := 0) hx hb dX9_ran_22 (by decide) ?_
  refine lv_aload_n hx hb dX9_ran_23 rfl (lv_at hl 1 rfl) ?_
  refine gf_MF_hadBalances hx hb hgw iwMF hown hK hO hf_fa1 k190 dX9_ran_24 ?_
  refine lv_iconst (v := 0) hx hb dX9_ran_27 (by decide) ?_
  refine lv_aload_n hx hb dX9_ran_28 rfl (lv_at hl 0 rfl) ?_
  refine gf_Mo_balances hx hb hgw iwMo hown hK hO k27 dX9_ran_29 ?_
  refine an_MBals hx hb hK hO dX9_ran_32 ?_
  obtain ⟨hc2, h⟩ := ck_some h
  refine ac_MBals_MHadB hx hb (by rw [hml]; exact hl.1.symm) hown k172 (hgw _ w_a648c8f7) (hgw _ w_410d49e2) (hgw _ w_4260ffab) hK hO hf_fa1 hc2 (by show 1 ≤ 5 * d + 15; omega) (Nat.le_trans (Nat.le_of_ble_eq_true rfl : _ ≤ 40) (by show 40 ≤ 139 * d + 339; omega)) dX9_ran_33 (fun H locs hO => ?_)
  refine lv_aload_n hx hb dX9_ran_36 rfl (lv_at hl 0 rfl) ?_
  refine gf_Mo_events hx hb hgw iwMo hown hK hO k128 dX9_ran_37 ?_
  refine lv_istore (lv' := [(4, .int (gI (cL (cL st0 0 0 (((0 : Int32)).toNatClampNeg) 5 a1 (((0 : Int32)).toNatClampNeg) (((64 : Int32)).toNatClampNeg)) 1 0 (((0 : Int32)).toNatClampNeg) 6 a1 (((0 : Int32)).toNatClampNeg) (((8 : Int32)).toNatClampNeg)) 7 0 0)), (0, .ref b0), (1, .ref fa1), (2, .long a2)]) hx hb dX9_ran_40 hl (by decide) rfl (fun ls hl => ?_)
  refine lv_aload_n hx hb dX9_ran_42 rfl (lv_at hl 2 rfl) ?_
  refine gf_MF_caller hx hb hgw iwMF hown hK hO hf_fa1 k134 dX9_ran_43 ?_
  refine lv_if_lt (tgt := 75) hx hb dX9_ran_46 (by decide) (fun c3 => ?_) (fun c3 => ?_)
  · have h := ite_t c3 h
    exact c_Mo_ranB_L75 hRx hRc ⟨hx, hb, hml, hown, hts⟩ hr hlocks hK r st' st0 (cL (cL st0 0 0 (((0 : Int32)).toNatClampNeg) 5 a1 (((0 : Int32)).toNatClampNeg) (((64 : Int32)).toNatClampNeg)) 1 0 (((0 : Int32)).toNatClampNeg) 6 a1 (((0 : Int32)).toNatClampNeg) (((8 : Int32)).toNatClampNeg)) a1 fa1 hf_fa1 (gI (cL (cL st0 0 0 (((0 : Int32)).toNatClampNeg) 5 a1 (((0 : Int32)).toNatClampNeg) (((64 : Int32)).toNatClampNeg)) 1 0 (((0 : Int32)).toNatClampNeg) 6 a1 (((0 : Int32)).toNatClampNeg) (((8 : Int32)).toNatClampNeg)) 7 0 0) _ _ _ h hO (lv_sub hl [1, 2, 0] rfl) (show Ext st0 _ from E_st0)
  · have h := ite_f c3 h
    refine lv_aload_n hx hb dX9_ran_49 rfl (lv_at hl 1 rfl) ?_
    refine gf_Mo_balances hx hb hgw iwMo hown hK hO k27 dX9_ran_50 ?_
    refine lv_aload_n hx hb dX9_ran_53 rfl (lv_at hl 2 rfl) ?_
    refine gf_MF_caller hx hb hgw iwMF hown hK hO hf_fa1 k134 dX9_ran_54 ?_
    refine lv_dup2_11 hx hb dX9_ran_57 rfl rfl ?_
    obtain ⟨hc15, h⟩ := ck_some h
    refine al_MBals hx hb hK hO hc15 dX9_ran_58 ?_
    refine lv_lload_n hx hb dX9_ran_59 rfl (lv_at hl 3 rfl) ?_
    refine lv_lsub hx hb dX9_ran_60 ?_
    obtain ⟨hc16, h⟩ := ck_some h
    refine as_MBals hx hb hK hO hc16 dX9_ran_61 (fun H locs hO => ?_)
    refine lv_aload_n hx hb dX9_ran_62 rfl (lv_at hl 1 rfl) ?_
    refine gf_Mo_balances hx hb hgw iwMo hown hK hO k27 dX9_ran_63 ?_
    refine lv_aload_n hx hb dX9_ran_66 rfl (lv_at hl 2 rfl) ?_
    refine gf_MF_contract hx hb hgw iwMF hown hK hO hf_fa1 k67 dX9_ran_67 ?_
    refine lv_dup2_11 hx hb dX9_ran_70 rfl rfl ?_
    obtain ⟨hc17, h⟩ := ck_some h
    refine al_MBals hx hb hK hO hc17 dX9_ran_71 ?_
    refine lv_lload_n hx hb dX9_ran_72 rfl (lv_at hl 3 rfl) ?_
    refine lv_ladd hx hb dX9_ran_73 ?_
    obtain ⟨hc18, h⟩ := ck_some h
    refine as_MBals hx hb hK hO hc18 dX9_ran_74 (fun H locs hO => ?_)
    exact c_Mo_ranB_L75 hRx hRc ⟨hx, hb, hml, hown, hts⟩ hr hlocks hK r st' st0 (sL (sL (cL (cL st0 0 0 (((0 : Int32)).toNatClampNeg) 5 a1 (((0 : Int32)).toNatClampNeg) (((64 : Int32)).toNatClampNeg)) 1 0 (((0 : Int32)).toNatClampNeg) 6 a1 (((0 : Int32)).toNatClampNeg) (((8 : Int32)).toNatClampNeg)) 1 0 ((gI (cL (cL st0 0 0 (((0 : Int32)).toNatClampNeg) 5 a1 (((0 : Int32)).toNatClampNeg) (((64 : Int32)).toNatClampNeg)) 1 0 (((0 : Int32)).toNatClampNeg) 6 a1 (((0 : Int32)).toNatClampNeg) (((8 : Int32)).toNatClampNeg)) 15 a1 0).toNatClampNeg) ((gL (cL (cL st0 0 0 (((0 : Int32)).toNatClampNeg) 5 a1 (((0 : Int32)).toNatClampNeg) (((64 : Int32)).toNatClampNeg)) 1 0 (((0 : Int32)).toNatClampNeg) 6 a1 (((0 : Int32)).toNatClampNeg) (((8 : Int32)).toNatClampNeg)) 1 0 ((gI (cL (cL st0 0 0 (((0 : Int32)).toNatClampNeg) 5 a1 (((0 : Int32)).toNatClampNeg) (((64 : Int32)).toNatClampNeg)) 1 0 (((0 : Int32)).toNatClampNeg) 6 a1 (((0 : Int32)).toNatClampNeg) (((8 : Int32)).toNatClampNeg)) 15 a1 0).toNatClampNeg)) - a2)) 1 0 ((gI (sL (cL (cL st0 0 0 (((0 : Int32)).toNatClampNeg) 5 a1 (((0 : Int32)).toNatClampNeg) (((64 : Int32)).toNatClampNeg)) 1 0 (((0 : Int32)).toNatClampNeg) 6 a1 (((0 : Int32)).toNatClampNeg) (((8 : Int32)).toNatClampNeg)) 1 0 ((gI (cL (cL st0 0 0 (((0 : Int32)).toNatClampNeg) 5 a1 (((0 : Int32)).toNatClampNeg) (((64 : Int32)).toNatClampNeg)) 1 0 (((0 : Int32)).toNatClampNeg) 6 a1 (((0 : Int32)).toNatClampNeg) (((8 : Int32)).toNatClampNeg)) 15 a1 0).toNatClampNeg) ((gL (cL (cL st0 0 0 (((0 : Int32)).toNatClampNeg) 5 a1 (((0 : Int32)).toNatClampNeg) (((64 : Int32)).toNatClampNeg)) 1 0 (((0 : Int32)).toNatClampNeg) 6 a1 (((0 : Int32)).toNatClampNeg) (((8 : Int32)).toNatClampNeg)) 1 0 ((gI (cL (cL st0 0 0 (((0 : Int32)).toNatClampNeg) 5 a1 (((0 : Int32)).toNatClampNeg) (((64 : Int32)).toNatClampNeg)) 1 0 (((0 : Int32)).toNatClampNeg) 6 a1 (((0 : Int32)).toNatClampNeg) (((8 : Int32)).toNatClampNeg)) 15 a1 0).toNatClampNeg)) - a2)) 14 a1 0).toNatClampNeg) ((gL (sL (cL (cL st0 0 0 (((0 : Int32)).toNatClampNeg) 5 a1 (((0 : Int32)).toNatClampNeg) (((64 : Int32)).toNatClampNeg)) 1 0 (((0 : Int32)).toNatClampNeg) 6 a1 (((0 : Int32)).toNatClampNeg) (((8 : Int32)).toNatClampNeg)) 1 0 ((gI (cL (cL st0 0 0 (((0 : Int32)).toNatClampNeg) 5 a1 (((0 : Int32)).toNatClampNeg) (((64 : Int32)).toNatClampNeg)) 1 0 (((0 : Int32)).toNatClampNeg) 6 a1 (((0 : Int32)).toNatClampNeg) (((8 : Int32)).toNatClampNeg)) 15 a1 0).toNatClampNeg) ((gL (cL (cL st0 0 0 (((0 : Int32)).toNatClampNeg) 5 a1 (((0 : Int32)).toNatClampNeg) (((64 : Int32)).toNatClampNeg)) 1 0 (((0 : Int32)).toNatClampNeg) 6 a1 (((0 : Int32)).toNatClampNeg) (((8 : Int32)).toNatClampNeg)) 1 0 ((gI (cL (cL st0 0 0 (((0 : Int32)).toNatClampNeg) 5 a1 (((0 : Int32)).toNatClampNeg) (((64 : Int32)).toNatClampNeg)) 1 0 (((0 : Int32)).toNatClampNeg) 6 a1 (((0 : Int32)).toNatClampNeg) (((8 : Int32)).toNatClampNeg)) 15 a1 0).toNatClampNeg)) - a2)) 1 0 ((gI (sL (cL (cL st0 0 0 (((0 : Int32)).toNatClampNeg) 5 a1 (((0 : Int32)).toNatClampNeg) (((64 : Int32)).toNatClampNeg)) 1 0 (((0 : Int32)).toNatClampNeg) 6 a1 (((0 : Int32)).toNatClampNeg) (((8 : Int32)).toNatClampNeg)) 1 0 ((gI (cL (cL st0 0 0 (((0 : Int32)).toNatClampNeg) 5 a1 (((0 : Int32)).toNatClampNeg) (((64 : Int32)).toNatClampNeg)) 1 0 (((0 : Int32)).toNatClampNeg) 6 a1 (((0 : Int32)).toNatClampNeg) (((8 : Int32)).toNatClampNeg)) 15 a1 0).toNatClampNeg) ((gL (cL (cL st0 0 0 (((0 : Int32)).toNatClampNeg) 5 a1 (((0 : Int32)).toNatClampNeg) (((64 : Int32)).toNatClampNeg)) 1 0 (((0 : Int32)).toNatClampNeg) 6 a1 (((0 : Int32)).toNatClampNeg) (((8 : Int32)).toNatClampNeg)) 1 0 ((gI (cL (cL st0 0 0 (((0 : Int32)).toNatClampNeg) 5 a1 (((0 : Int32)).toNatClampNeg) (((64 : Int32)).toNatClampNeg)) 1 0 (((0 : Int32)).toNatClampNeg) 6 a1 (((0 : Int32)).toNatClampNeg) (((8 : Int32)).toNatClampNeg)) 15 a1 0).toNatClampNeg)) - a2)) 14 a1 0).toNatClampNeg)) + a2)) a1 fa1 hf_fa1 (gI (cL (cL st0 0 0 (((0 : Int32)).toNatClampNeg) 5 a1 (((0 : Int32)).toNatClampNeg) (((64 : Int32)).toNatClampNeg)) 1 0 (((0 : Int32)).toNatClampNeg) 6 a1 (((0 : Int32)).toNatClampNeg) (((8 : Int32)).toNatClampNeg)) 7 0 0) _ _ _ h hO (lv_sub hl [1, 2, 0] rfl) (show Ext st0 _ from E_st0)
