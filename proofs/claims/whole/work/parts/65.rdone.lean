-- CallWalkerModel done
def j_Mo_done_L372 (RAN : Nat → Int64 → CwS → Option (Int32 × CwS)) (x4 : Int32) (st : CwS) : Option (Int32 × CwS) :=
  bR (j_Mo_isIn x4 ((0 : Int32)) ((7 : Int32)) st) fun r27 st28 =>
  if r27 = ((0 : Int32)) then
    some ((12 : Int32), st28)
  else
    some ((4 : Int32), st28)
def j_Mo_done_L202 (RAN : Nat → Int64 → CwS → Option (Int32 × CwS)) (x1 : Nat) (x3 : Int32) (x4 : Int32) (x6 : Int32) (st : CwS) : Option (Int32 × CwS) :=
  if x3 = (0 : Int32) then
    bV (j_MF_number x1 x4.toInt64 st) fun st13 =>
    some ((0 : Int32), st13)
  else
  if x3 = (1 : Int32) then
    bR (j_Mo_isIn x4 ((0 : Int32)) ((7 : Int32)) st) fun r15 st16 =>
    if r15 = ((0 : Int32)) then
      some ((12 : Int32), st16)
    else
      ck (ix ((((8 : Int32)) * (gI st16 14 x1 0)) + x4) 64) <|
      bV (j_MF_number x1 (gL st16 0 0 (((((8 : Int32)) * (gI st16 14 x1 0)) + x4).toNatClampNeg)) st16) fun st21 =>
      some ((0 : Int32), st21)
  else
  if x3 = (2 : Int32) then
    bR (j_Mo_isIn x4 ((0 : Int32)) ((7 : Int32)) st) fun r23 st24 =>
    if r23 = ((0 : Int32)) then
      j_Mo_done_L372 RAN x4 st24
    else
      bR (j_MF_isNumber x1 x6 st24) fun r31 st32 =>
      if r31 = ((0 : Int32)) then
        j_Mo_done_L372 RAN x4 st32
      else
        ck (ix x6 13) <|
        ck (ix ((((8 : Int32)) * (gI st32 14 x1 0)) + x4) 64) <|
        some ((0 : Int32), sL st32 0 0 (((((8 : Int32)) * (gI st32 14 x1 0)) + x4).toNatClampNeg) (gL st32 7 x1 x6.toNatClampNeg))
  else
  if x3 = (3 : Int32) then
    ck (ix x6 13) <|
    ck (ix x6 13) <|
    ck (ix x6 13) <|
    bV (j_MF_push x1 (gI (sI st 18 x1 0 ((gI st 18 x1 0) + ((1 : Int32)))) 21 x1 x6.toNatClampNeg) (gL (sI st 18 x1 0 ((gI st 18 x1 0) + ((1 : Int32)))) 7 x1 x6.toNatClampNeg) (gR (sI st 18 x1 0 ((gI st 18 x1 0) + ((1 : Int32)))) 50 (16 * x1 + x6.toNatClampNeg)) (sI st 18 x1 0 ((gI st 18 x1 0) + ((1 : Int32))))) fun st41 =>
    some ((0 : Int32), st41)
  else
  if x3 = (4 : Int32) then
    some ((0 : Int32), st)
  else
  if x3 = (5 : Int32) then
    ck (ix x6 13) <|
    ck (ix x6 13) <|
    ck (ix x6 13) <|
    ck (ix (x6 + ((1 : Int32))) 13) <|
    ck (ix (x6 + ((1 : Int32))) 13) <|
    ck (ix (x6 + ((1 : Int32))) 13) <|
    bV (j_MF_push x1 (gI st 21 x1 ((x6 + ((1 : Int32))).toNatClampNeg)) (gL st 7 x1 ((x6 + ((1 : Int32))).toNatClampNeg)) (gR st 50 (16 * x1 + ((x6 + ((1 : Int32))).toNatClampNeg))) st) fun st50 =>
    bV (j_MF_push x1 (gI st 21 x1 x6.toNatClampNeg) (gL st 7 x1 x6.toNatClampNeg) (gR st 50 (16 * x1 + x6.toNatClampNeg)) st50) fun st53 =>
    some ((0 : Int32), st53)
  else
  if x3 = (22 : Int32) then
    bV (j_MF_push x1 ((3 : Int32)) ((0 : Int64)) 0 st) fun st56 =>
    some ((0 : Int32), st56)
  else
    bR (j_Mo_went RAN x1 x3 x4 x6 st) fun r58 st59 =>
    some (r58, st59)
def j_Mo_done_L175 (RAN : Nat → Int64 → CwS → Option (Int32 × CwS)) (x1 : Nat) (x3 : Int32) (x4 : Int32) (x6 : Int32) (st : CwS) : Option (Int32 × CwS) :=
  if x3 < ((15 : Int32)) then
    j_Mo_done_L202 RAN x1 x3 x4 x6 st
  else
    if ((23 : Int32)) < x3 then
      j_Mo_done_L202 RAN x1 x3 x4 x6 st
    else
      if x3 = ((22 : Int32)) then
        j_Mo_done_L202 RAN x1 x3 x4 x6 st
      else
        bR (j_Mo_rowed x1 x3 x6 st) fun r63 st64 =>
        some (r63, st64)
def j_Mo_done (RAN : Nat → Int64 → CwS → Option (Int32 × CwS)) (a1 : Nat) (st0 : CwS) : Option (Int32 × CwS) :=
  if (gI st0 17 a1 0) = ((0 : Int32)) then
    some ((7 : Int32), st0)
  else
    ck (ix ((((24 : Int32)) * ((((6 : Int32)) * (gI (sI (sI st0 17 a1 0 ((gI st0 17 a1 0) - ((1 : Int32)))) 8 0 0 ((gI (sI st0 17 a1 0 ((gI st0 17 a1 0) - ((1 : Int32)))) 8 0 0) + ((1 : Int32)))) 14 a1 0)) + (gI (sI (sI st0 17 a1 0 ((gI st0 17 a1 0) - ((1 : Int32)))) 8 0 0 ((gI (sI st0 17 a1 0 ((gI st0 17 a1 0) - ((1 : Int32)))) 8 0 0) + ((1 : Int32)))) 16 a1 0))) + (gI (sI (sI st0 17 a1 0 ((gI st0 17 a1 0) - ((1 : Int32)))) 8 0 0 ((gI (sI st0 17 a1 0 ((gI st0 17 a1 0) - ((1 : Int32)))) 8 0 0) + ((1 : Int32)))) 20 a1 0)) 1152) <|
    ck (ix ((((24 : Int32)) * ((((6 : Int32)) * (gI (sI (sI st0 17 a1 0 ((gI st0 17 a1 0) - ((1 : Int32)))) 8 0 0 ((gI (sI st0 17 a1 0 ((gI st0 17 a1 0) - ((1 : Int32)))) 8 0 0) + ((1 : Int32)))) 14 a1 0)) + (gI (sI (sI st0 17 a1 0 ((gI st0 17 a1 0) - ((1 : Int32)))) 8 0 0 ((gI (sI st0 17 a1 0 ((gI st0 17 a1 0) - ((1 : Int32)))) 8 0 0) + ((1 : Int32)))) 16 a1 0))) + (gI (sI (sI st0 17 a1 0 ((gI st0 17 a1 0) - ((1 : Int32)))) 8 0 0 ((gI (sI st0 17 a1 0 ((gI st0 17 a1 0) - ((1 : Int32)))) 8 0 0) + ((1 : Int32)))) 20 a1 0)) 1152) <|
    bR (j_Mo_needs (gI (sI (sI st0 17 a1 0 ((gI st0 17 a1 0) - ((1 : Int32)))) 8 0 0 ((gI (sI st0 17 a1 0 ((gI st0 17 a1 0) - ((1 : Int32)))) 8 0 0) + ((1 : Int32)))) 0 0 (((((24 : Int32)) * ((((6 : Int32)) * (gI (sI (sI st0 17 a1 0 ((gI st0 17 a1 0) - ((1 : Int32)))) 8 0 0 ((gI (sI st0 17 a1 0 ((gI st0 17 a1 0) - ((1 : Int32)))) 8 0 0) + ((1 : Int32)))) 14 a1 0)) + (gI (sI (sI st0 17 a1 0 ((gI st0 17 a1 0) - ((1 : Int32)))) 8 0 0 ((gI (sI st0 17 a1 0 ((gI st0 17 a1 0) - ((1 : Int32)))) 8 0 0) + ((1 : Int32)))) 16 a1 0))) + (gI (sI (sI st0 17 a1 0 ((gI st0 17 a1 0) - ((1 : Int32)))) 8 0 0 ((gI (sI st0 17 a1 0 ((gI st0 17 a1 0) - ((1 : Int32)))) 8 0 0) + ((1 : Int32)))) 20 a1 0)).toNatClampNeg)) (sI (sI (sI st0 17 a1 0 ((gI st0 17 a1 0) - ((1 : Int32)))) 8 0 0 ((gI (sI st0 17 a1 0 ((gI st0 17 a1 0) - ((1 : Int32)))) 8 0 0) + ((1 : Int32)))) 20 a1 0 ((gI (sI (sI st0 17 a1 0 ((gI st0 17 a1 0) - ((1 : Int32)))) 8 0 0 ((gI (sI st0 17 a1 0 ((gI st0 17 a1 0) - ((1 : Int32)))) 8 0 0) + ((1 : Int32)))) 20 a1 0) + ((1 : Int32))))) fun r4 st5 =>
    if ((0 : Int32)) ≤ r4 then
      if (gI st5 18 a1 0) < (r4 / ((10 : Int32))) then
        some ((11 : Int32), st5)
      else
        if (((gI st5 18 a1 0) - (r4 / ((10 : Int32)))) + (r4 - r4 / ((10 : Int32)) * ((10 : Int32)))) ≤ ((12 : Int32)) then
          if (gI (sI (sI st0 17 a1 0 ((gI st0 17 a1 0) - ((1 : Int32)))) 8 0 0 ((gI (sI st0 17 a1 0 ((gI st0 17 a1 0) - ((1 : Int32)))) 8 0 0) + ((1 : Int32)))) 0 0 (((((24 : Int32)) * ((((6 : Int32)) * (gI (sI (sI st0 17 a1 0 ((gI st0 17 a1 0) - ((1 : Int32)))) 8 0 0 ((gI (sI st0 17 a1 0 ((gI st0 17 a1 0) - ((1 : Int32)))) 8 0 0) + ((1 : Int32)))) 14 a1 0)) + (gI (sI (sI st0 17 a1 0 ((gI st0 17 a1 0) - ((1 : Int32)))) 8 0 0 ((gI (sI st0 17 a1 0 ((gI st0 17 a1 0) - ((1 : Int32)))) 8 0 0) + ((1 : Int32)))) 16 a1 0))) + (gI (sI (sI st0 17 a1 0 ((gI st0 17 a1 0) - ((1 : Int32)))) 8 0 0 ((gI (sI st0 17 a1 0 ((gI st0 17 a1 0) - ((1 : Int32)))) 8 0 0) + ((1 : Int32)))) 20 a1 0)).toNatClampNeg)) < ((6 : Int32)) then
            j_Mo_done_L175 RAN a1 (gI (sI (sI st0 17 a1 0 ((gI st0 17 a1 0) - ((1 : Int32)))) 8 0 0 ((gI (sI st0 17 a1 0 ((gI st0 17 a1 0) - ((1 : Int32)))) 8 0 0) + ((1 : Int32)))) 0 0 (((((24 : Int32)) * ((((6 : Int32)) * (gI (sI (sI st0 17 a1 0 ((gI st0 17 a1 0) - ((1 : Int32)))) 8 0 0 ((gI (sI st0 17 a1 0 ((gI st0 17 a1 0) - ((1 : Int32)))) 8 0 0) + ((1 : Int32)))) 14 a1 0)) + (gI (sI (sI st0 17 a1 0 ((gI st0 17 a1 0) - ((1 : Int32)))) 8 0 0 ((gI (sI st0 17 a1 0 ((gI st0 17 a1 0) - ((1 : Int32)))) 8 0 0) + ((1 : Int32)))) 16 a1 0))) + (gI (sI (sI st0 17 a1 0 ((gI st0 17 a1 0) - ((1 : Int32)))) 8 0 0 ((gI (sI st0 17 a1 0 ((gI st0 17 a1 0) - ((1 : Int32)))) 8 0 0) + ((1 : Int32)))) 20 a1 0)).toNatClampNeg)) (gI (sI (sI st0 17 a1 0 ((gI st0 17 a1 0) - ((1 : Int32)))) 8 0 0 ((gI (sI st0 17 a1 0 ((gI st0 17 a1 0) - ((1 : Int32)))) 8 0 0) + ((1 : Int32)))) 1 0 (((((24 : Int32)) * ((((6 : Int32)) * (gI (sI (sI st0 17 a1 0 ((gI st0 17 a1 0) - ((1 : Int32)))) 8 0 0 ((gI (sI st0 17 a1 0 ((gI st0 17 a1 0) - ((1 : Int32)))) 8 0 0) + ((1 : Int32)))) 14 a1 0)) + (gI (sI (sI st0 17 a1 0 ((gI st0 17 a1 0) - ((1 : Int32)))) 8 0 0 ((gI (sI st0 17 a1 0 ((gI st0 17 a1 0) - ((1 : Int32)))) 8 0 0) + ((1 : Int32)))) 16 a1 0))) + (gI (sI (sI st0 17 a1 0 ((gI st0 17 a1 0) - ((1 : Int32)))) 8 0 0 ((gI (sI st0 17 a1 0 ((gI st0 17 a1 0) - ((1 : Int32)))) 8 0 0) + ((1 : Int32)))) 20 a1 0)).toNatClampNeg)) (gI (sI st5 18 a1 0 ((gI st5 18 a1 0) - (r4 / ((10 : Int32))))) 18 a1 0) (sI st5 18 a1 0 ((gI st5 18 a1 0) - (r4 / ((10 : Int32)))))
          else
            if ((12 : Int32)) < (gI (sI (sI st0 17 a1 0 ((gI st0 17 a1 0) - ((1 : Int32)))) 8 0 0 ((gI (sI st0 17 a1 0 ((gI st0 17 a1 0) - ((1 : Int32)))) 8 0 0) + ((1 : Int32)))) 0 0 (((((24 : Int32)) * ((((6 : Int32)) * (gI (sI (sI st0 17 a1 0 ((gI st0 17 a1 0) - ((1 : Int32)))) 8 0 0 ((gI (sI st0 17 a1 0 ((gI st0 17 a1 0) - ((1 : Int32)))) 8 0 0) + ((1 : Int32)))) 14 a1 0)) + (gI (sI (sI st0 17 a1 0 ((gI st0 17 a1 0) - ((1 : Int32)))) 8 0 0 ((gI (sI st0 17 a1 0 ((gI st0 17 a1 0) - ((1 : Int32)))) 8 0 0) + ((1 : Int32)))) 16 a1 0))) + (gI (sI (sI st0 17 a1 0 ((gI st0 17 a1 0) - ((1 : Int32)))) 8 0 0 ((gI (sI st0 17 a1 0 ((gI st0 17 a1 0) - ((1 : Int32)))) 8 0 0) + ((1 : Int32)))) 20 a1 0)).toNatClampNeg)) then
              j_Mo_done_L175 RAN a1 (gI (sI (sI st0 17 a1 0 ((gI st0 17 a1 0) - ((1 : Int32)))) 8 0 0 ((gI (sI st0 17 a1 0 ((gI st0 17 a1 0) - ((1 : Int32)))) 8 0 0) + ((1 : Int32)))) 0 0 (((((24 : Int32)) * ((((6 : Int32)) * (gI (sI (sI st0 17 a1 0 ((gI st0 17 a1 0) - ((1 : Int32)))) 8 0 0 ((gI (sI st0 17 a1 0 ((gI st0 17 a1 0) - ((1 : Int32)))) 8 0 0) + ((1 : Int32)))) 14 a1 0)) + (gI (sI (sI st0 17 a1 0 ((gI st0 17 a1 0) - ((1 : Int32)))) 8 0 0 ((gI (sI st0 17 a1 0 ((gI st0 17 a1 0) - ((1 : Int32)))) 8 0 0) + ((1 : Int32)))) 16 a1 0))) + (gI (sI (sI st0 17 a1 0 ((gI st0 17 a1 0) - ((1 : Int32)))) 8 0 0 ((gI (sI st0 17 a1 0 ((gI st0 17 a1 0) - ((1 : Int32)))) 8 0 0) + ((1 : Int32)))) 20 a1 0)).toNatClampNeg)) (gI (sI (sI st0 17 a1 0 ((gI st0 17 a1 0) - ((1 : Int32)))) 8 0 0 ((gI (sI st0 17 a1 0 ((gI st0 17 a1 0) - ((1 : Int32)))) 8 0 0) + ((1 : Int32)))) 1 0 (((((24 : Int32)) * ((((6 : Int32)) * (gI (sI (sI st0 17 a1 0 ((gI st0 17 a1 0) - ((1 : Int32)))) 8 0 0 ((gI (sI st0 17 a1 0 ((gI st0 17 a1 0) - ((1 : Int32)))) 8 0 0) + ((1 : Int32)))) 14 a1 0)) + (gI (sI (sI st0 17 a1 0 ((gI st0 17 a1 0) - ((1 : Int32)))) 8 0 0 ((gI (sI st0 17 a1 0 ((gI st0 17 a1 0) - ((1 : Int32)))) 8 0 0) + ((1 : Int32)))) 16 a1 0))) + (gI (sI (sI st0 17 a1 0 ((gI st0 17 a1 0) - ((1 : Int32)))) 8 0 0 ((gI (sI st0 17 a1 0 ((gI st0 17 a1 0) - ((1 : Int32)))) 8 0 0) + ((1 : Int32)))) 20 a1 0)).toNatClampNeg)) (gI (sI st5 18 a1 0 ((gI st5 18 a1 0) - (r4 / ((10 : Int32))))) 18 a1 0) (sI st5 18 a1 0 ((gI st5 18 a1 0) - (r4 / ((10 : Int32)))))
            else
              bR (j_Mo_reckoned a1 (gI (sI (sI st0 17 a1 0 ((gI st0 17 a1 0) - ((1 : Int32)))) 8 0 0 ((gI (sI st0 17 a1 0 ((gI st0 17 a1 0) - ((1 : Int32)))) 8 0 0) + ((1 : Int32)))) 0 0 (((((24 : Int32)) * ((((6 : Int32)) * (gI (sI (sI st0 17 a1 0 ((gI st0 17 a1 0) - ((1 : Int32)))) 8 0 0 ((gI (sI st0 17 a1 0 ((gI st0 17 a1 0) - ((1 : Int32)))) 8 0 0) + ((1 : Int32)))) 14 a1 0)) + (gI (sI (sI st0 17 a1 0 ((gI st0 17 a1 0) - ((1 : Int32)))) 8 0 0 ((gI (sI st0 17 a1 0 ((gI st0 17 a1 0) - ((1 : Int32)))) 8 0 0) + ((1 : Int32)))) 16 a1 0))) + (gI (sI (sI st0 17 a1 0 ((gI st0 17 a1 0) - ((1 : Int32)))) 8 0 0 ((gI (sI st0 17 a1 0 ((gI st0 17 a1 0) - ((1 : Int32)))) 8 0 0) + ((1 : Int32)))) 20 a1 0)).toNatClampNeg)) (gI (sI st5 18 a1 0 ((gI st5 18 a1 0) - (r4 / ((10 : Int32))))) 18 a1 0) (sI st5 18 a1 0 ((gI st5 18 a1 0) - (r4 / ((10 : Int32)))))) fun r67 st68 =>
              some (r67, st68)
        else
          some ((11 : Int32), st5)
    else
      some ((12 : Int32), st5)
set_option maxHeartbeats 4000000 in
theorem x_Mo_done_L372 {RAN : Nat → Int64 → CwS → Option (Int32 × CwS)} (hRx : ∀ (f : Nat) (v : Int64) (st : CwS) (r : Int32) (st' : CwS), RAN f v st = some (r, st') → Ext st st') {x4 : Int32} {st : CwS} {r : Int32} {st' : CwS} (h : j_Mo_done_L372 RAN x4 st = some (r, st')) : Ext st st' := by
  unfold j_Mo_done_L372 at h
  obtain ⟨r27, st28, h29, h⟩ := bR_some h
  refine Ext.trans (a := st) (b := st28) (by have t := x_Mo_isIn h29; exact t) ?_
  by_cases c30 : r27 = ((0 : Int32))
  · have h := ite_t c30 h
    obtain ⟨-, rfl⟩ := ret2 h; exact (show Ext st28 _ from Ext.refl st28)
  · have h := ite_f c30 h
    obtain ⟨-, rfl⟩ := ret2 h; exact (show Ext st28 _ from Ext.refl st28)
set_option maxHeartbeats 4000000 in
theorem x_Mo_done_L202 {RAN : Nat → Int64 → CwS → Option (Int32 × CwS)} (hRx : ∀ (f : Nat) (v : Int64) (st : CwS) (r : Int32) (st' : CwS), RAN f v st = some (r, st') → Ext st st') {x1 : Nat} {x3 : Int32} {x4 : Int32} {x6 : Int32} {st : CwS} {r : Int32} {st' : CwS} (h : j_Mo_done_L202 RAN x1 x3 x4 x6 st = some (r, st')) : Ext st st' := by
  unfold j_Mo_done_L202 at h
  by_cases c70 : x3 = (0 : Int32)
  · have h := ite_t c70 h
    obtain ⟨st13, h14, h⟩ := bV_some h
    refine Ext.trans (a := st) (b := st13) (by have t := x_MF_number h14; exact t) ?_
    obtain ⟨-, rfl⟩ := ret2 h; exact (show Ext st13 _ from Ext.refl st13)
  have h := ite_f c70 h
  by_cases c71 : x3 = (1 : Int32)
  · have h := ite_t c71 h
    obtain ⟨r15, st16, h17, h⟩ := bR_some h
    refine Ext.trans (a := st) (b := st16) (by have t := x_Mo_isIn h17; exact t) ?_
    by_cases c18 : r15 = ((0 : Int32))
    · have h := ite_t c18 h
      obtain ⟨-, rfl⟩ := ret2 h; exact (show Ext st16 _ from Ext.refl st16)
    · have h := ite_f c18 h
      obtain ⟨-, h⟩ := ck_some h
      obtain ⟨st21, h22, h⟩ := bV_some h
      refine Ext.trans (a := st16) (b := st21) (by have t := x_MF_number h22; exact t) ?_
      obtain ⟨-, rfl⟩ := ret2 h; exact (show Ext st21 _ from Ext.refl st21)
  have h := ite_f c71 h
  by_cases c72 : x3 = (2 : Int32)
  · have h := ite_t c72 h
    obtain ⟨r23, st24, h25, h⟩ := bR_some h
    refine Ext.trans (a := st) (b := st24) (by have t := x_Mo_isIn h25; exact t) ?_
    by_cases c26 : r23 = ((0 : Int32))
    · have h := ite_t c26 h
      have t := x_Mo_done_L372 hRx h; exact (show Ext st24 _ from t)
    · have h := ite_f c26 h
      obtain ⟨r31, st32, h33, h⟩ := bR_some h
      refine Ext.trans (a := st24) (b := st32) (by have t := x_MF_isNumber h33; exact t) ?_
      by_cases c34 : r31 = ((0 : Int32))
      · have h := ite_t c34 h
        have t := x_Mo_done_L372 hRx h; exact (show Ext st32 _ from t)
      · have h := ite_f c34 h
        obtain ⟨-, h⟩ := ck_some h
        obtain ⟨-, h⟩ := ck_some h
        obtain ⟨-, rfl⟩ := ret2 h; exact (show Ext st32 _ from Ext.refl st32)
  have h := ite_f c72 h
  by_cases c73 : x3 = (3 : Int32)
  · have h := ite_t c73 h
    obtain ⟨-, h⟩ := ck_some h
    obtain ⟨-, h⟩ := ck_some h
    obtain ⟨-, h⟩ := ck_some h
    obtain ⟨st41, h42, h⟩ := bV_some h
    refine Ext.trans (a := st) (b := st41) (by have t := x_MF_push h42; exact t) ?_
    obtain ⟨-, rfl⟩ := ret2 h; exact (show Ext st41 _ from Ext.refl st41)
  have h := ite_f c73 h
  by_cases c74 : x3 = (4 : Int32)
  · have h := ite_t c74 h
    obtain ⟨-, rfl⟩ := ret2 h; exact (show Ext st _ from Ext.refl st)
  have h := ite_f c74 h
  by_cases c75 : x3 = (5 : Int32)
  · have h := ite_t c75 h
    obtain ⟨-, h⟩ := ck_some h
    obtain ⟨-, h⟩ := ck_some h
    obtain ⟨-, h⟩ := ck_some h
    obtain ⟨-, h⟩ := ck_some h
    obtain ⟨-, h⟩ := ck_some h
    obtain ⟨-, h⟩ := ck_some h
    obtain ⟨st50, h51, h⟩ := bV_some h
    refine Ext.trans (a := st) (b := st50) (by have t := x_MF_push h51; exact t) ?_
    obtain ⟨st53, h54, h⟩ := bV_some h
    refine Ext.trans (a := st50) (b := st53) (by have t := x_MF_push h54; exact t) ?_
    obtain ⟨-, rfl⟩ := ret2 h; exact (show Ext st53 _ from Ext.refl st53)
  have h := ite_f c75 h
  by_cases c76 : x3 = (22 : Int32)
  · have h := ite_t c76 h
    obtain ⟨st56, h57, h⟩ := bV_some h
    refine Ext.trans (a := st) (b := st56) (by have t := x_MF_push h57; exact t) ?_
    obtain ⟨-, rfl⟩ := ret2 h; exact (show Ext st56 _ from Ext.refl st56)
  have h := ite_f c76 h
  obtain ⟨r58, st59, h60, h⟩ := bR_some h
  refine Ext.trans (a := st) (b := st59) (by have t := x_Mo_went hRx h60; exact t) ?_
  obtain ⟨-, rfl⟩ := ret2 h; exact (show Ext st59 _ from Ext.refl st59)
set_option maxHeartbeats 4000000 in
theorem x_Mo_done_L175 {RAN : Nat → Int64 → CwS → Option (Int32 × CwS)} (hRx : ∀ (f : Nat) (v : Int64) (st : CwS) (r : Int32) (st' : CwS), RAN f v st = some (r, st') → Ext st st') {x1 : Nat} {x3 : Int32} {x4 : Int32} {x6 : Int32} {st : CwS} {r : Int32} {st' : CwS} (h : j_Mo_done_L175 RAN x1 x3 x4 x6 st = some (r, st')) : Ext st st' := by
  unfold j_Mo_done_L175 at h
  by_cases c11 : x3 < ((15 : Int32))
  · have h := ite_t c11 h
    have t := x_Mo_done_L202 hRx h; exact (show Ext st _ from t)
  · have h := ite_f c11 h
    by_cases c61 : ((23 : Int32)) < x3
    · have h := ite_t c61 h
      have t := x_Mo_done_L202 hRx h; exact (show Ext st _ from t)
    · have h := ite_f c61 h
      by_cases c62 : x3 = ((22 : Int32))
      · have h := ite_t c62 h
        have t := x_Mo_done_L202 hRx h; exact (show Ext st _ from t)
      · have h := ite_f c62 h
        obtain ⟨r63, st64, h65, h⟩ := bR_some h
        refine Ext.trans (a := st) (b := st64) (by have t := x_Mo_rowed h65; exact t) ?_
        obtain ⟨-, rfl⟩ := ret2 h; exact (show Ext st64 _ from Ext.refl st64)
set_option maxHeartbeats 4000000 in
theorem x_Mo_done {RAN : Nat → Int64 → CwS → Option (Int32 × CwS)} (hRx : ∀ (f : Nat) (v : Int64) (st : CwS) (r : Int32) (st' : CwS), RAN f v st = some (r, st') → Ext st st') {a1 : Nat} {st0 : CwS} {r : Int32} {st' : CwS} (h : j_Mo_done RAN a1 st0 = some (r, st')) : Ext st0 st' := by
  unfold j_Mo_done at h
  by_cases c1 : (gI st0 17 a1 0) = ((0 : Int32))
  · have h := ite_t c1 h
    obtain ⟨-, rfl⟩ := ret2 h; exact (show Ext st0 _ from Ext.refl st0)
  · have h := ite_f c1 h
    obtain ⟨-, h⟩ := ck_some h
    obtain ⟨-, h⟩ := ck_some h
    obtain ⟨r4, st5, h6, h⟩ := bR_some h
    refine Ext.trans (a := st0) (b := st5) (by have t := x_Mo_needs h6; exact t) ?_
    by_cases c7 : ((0 : Int32)) ≤ r4
    · have h := ite_t c7 h
      by_cases c8 : (gI st5 18 a1 0) < (r4 / ((10 : Int32)))
      · have h := ite_t c8 h
        obtain ⟨-, rfl⟩ := ret2 h; exact (show Ext st5 _ from Ext.refl st5)
      · have h := ite_f c8 h
        by_cases c9 : (((gI st5 18 a1 0) - (r4 / ((10 : Int32)))) + (r4 - r4 / ((10 : Int32)) * ((10 : Int32)))) ≤ ((12 : Int32))
        · have h := ite_t c9 h
          by_cases c10 : (gI (sI (sI st0 17 a1 0 ((gI st0 17 a1 0) - ((1 : Int32)))) 8 0 0 ((gI (sI st0 17 a1 0 ((gI st0 17 a1 0) - ((1 : Int32)))) 8 0 0) + ((1 : Int32)))) 0 0 (((((24 : Int32)) * ((((6 : Int32)) * (gI (sI (sI st0 17 a1 0 ((gI st0 17 a1 0) - ((1 : Int32)))) 8 0 0 ((gI (sI st0 17 a1 0 ((gI st0 17 a1 0) - ((1 : Int32)))) 8 0 0) + ((1 : Int32)))) 14 a1 0)) + (gI (sI (sI st0 17 a1 0 ((gI st0 17 a1 0) - ((1 : Int32)))) 8 0 0 ((gI (sI st0 17 a1 0 ((gI st0 17 a1 0) - ((1 : Int32)))) 8 0 0) + ((1 : Int32)))) 16 a1 0))) + (gI (sI (sI st0 17 a1 0 ((gI st0 17 a1 0) - ((1 : Int32)))) 8 0 0 ((gI (sI st0 17 a1 0 ((gI st0 17 a1 0) - ((1 : Int32)))) 8 0 0) + ((1 : Int32)))) 20 a1 0)).toNatClampNeg)) < ((6 : Int32))
          · have h := ite_t c10 h
            have t := x_Mo_done_L175 hRx h; exact (show Ext st5 _ from t)
          · have h := ite_f c10 h
            by_cases c66 : ((12 : Int32)) < (gI (sI (sI st0 17 a1 0 ((gI st0 17 a1 0) - ((1 : Int32)))) 8 0 0 ((gI (sI st0 17 a1 0 ((gI st0 17 a1 0) - ((1 : Int32)))) 8 0 0) + ((1 : Int32)))) 0 0 (((((24 : Int32)) * ((((6 : Int32)) * (gI (sI (sI st0 17 a1 0 ((gI st0 17 a1 0) - ((1 : Int32)))) 8 0 0 ((gI (sI st0 17 a1 0 ((gI st0 17 a1 0) - ((1 : Int32)))) 8 0 0) + ((1 : Int32)))) 14 a1 0)) + (gI (sI (sI st0 17 a1 0 ((gI st0 17 a1 0) - ((1 : Int32)))) 8 0 0 ((gI (sI st0 17 a1 0 ((gI st0 17 a1 0) - ((1 : Int32)))) 8 0 0) + ((1 : Int32)))) 16 a1 0))) + (gI (sI (sI st0 17 a1 0 ((gI st0 17 a1 0) - ((1 : Int32)))) 8 0 0 ((gI (sI st0 17 a1 0 ((gI st0 17 a1 0) - ((1 : Int32)))) 8 0 0) + ((1 : Int32)))) 20 a1 0)).toNatClampNeg))
            · have h := ite_t c66 h
              have t := x_Mo_done_L175 hRx h; exact (show Ext st5 _ from t)
            · have h := ite_f c66 h
              obtain ⟨r67, st68, h69, h⟩ := bR_some h
              refine Ext.trans (a := st5) (b := st68) (by have t := x_Mo_reckoned h69; exact t) ?_
              obtain ⟨-, rfl⟩ := ret2 h; exact (show Ext st68 _ from Ext.refl st68)
        · have h := ite_f c9 h
          obtain ⟨-, rfl⟩ := ret2 h; exact (show Ext st5 _ from Ext.refl st5)
    · have h := ite_f c7 h
      obtain ⟨-, rfl⟩ := ret2 h; exact (show Ext st5 _ from Ext.refl st5)
set_option maxHeartbeats 4000000 in
set_option maxRecDepth 100000 in
theorem c_Mo_done_L372 {l : Launch} {D : va_G} {A : Nat → Prop} {b0 : Nat} {cA : Nat → ClassId} {RAN : Nat → Int64 → CwS → Option (Int32 × CwS)} {d : Nat} (hRx : ∀ (f : Nat) (v : Int64) (st : CwS) (r : Int32) (st' : CwS), RAN f v st = some (r, st') → Ext st st') (hRc : ∀ (st0 : CwS) (f fa : Nat) (hf : rfF st0 f fa) (v : Int64) (r : Int32) (st' : CwS), RAN f v st0 = some (r, st') → Met l yX9_ran (wv yX9_ran cX9_ran 6 (some .int)) ({ frames := 5 * d + 10, cells := gR st' 101 2 - gR st0 101 2, slots := gR st' 101 3 - gR st0 101 3, locals := 139 * d + 200 }) (va_Pc [.ref b0, .ref fa, .long v] (rfU D A b0 cA st0)) (rfQi D A b0 cA r st') (gR st' 101 2 - gR st0 101 2) (gR st' 101 3 - gR st0 101 3) A) {p : Program} {e : Env} {s : State} {m : MethodId} {args : Array Value} {below : List Frame} {meth : Method} {c : Code} (S : CallFix p m c cX9_done 11 s args (wv yX9_done cX9_done 11 (some .int)) RX9) (hr : meth.sig.returnType = some .int) (hlocks : meth.locks = false) (hK : rfK D cA s) (r : Int32) (st' : CwS) (st0 : CwS) (st : CwS) (x4 : Int32) (H : Heap) (locs : List Loc) (ls : Array Slot) (h : j_Mo_done_L372 RAN x4 st = some (r, st')) (hO : rfO D A b0 cA s st H locs) (hl : lv_has ls 11 [(4, .int x4)]) (E_st : Ext st0 st) : W p l e ({ frames := 5 * d + 13, cells := gR st' 101 2 - gR st0 101 2, slots := gR st' 101 3 - gR st0 101 3, locals := 139 * d + 284 }) s m args below meth c H locs (gR st 101 2 - gR st0 101 2) (gR st 101 3 - gR st0 101 3) (MQ below (rfQi D A b0 cA r st') args s (gR st' 101 2 - gR st0 101 2) (gR st' 101 3 - gR st0 101 3) A) (F0 m 372 ls []) := by
  obtain ⟨hx, hb, hml, hown, hts⟩ := S
  have hgw := fun (w : Cond) (h : w ∈ gwW) => hts w (List.mem_cons_of_mem _ h)
  have k9 := hgw _ w_021ca238
  have k13 := hgw _ w_eb510d35
  have k23 := hgw _ w_3c9d41c6
  have k61 := hgw _ w_b3eed388
  have k64 := hgw _ w_6e237316
  have k67 := hgw _ w_1c4b90a6
  have k70 := hgw _ w_3b4ec9b7
  have k73 := hgw _ w_f693c208
  have k80 := hgw _ w_4931c96f
  have k97 := hgw _ w_bb1741c6
  have k100 := hgw _ w_36d04f4c
  have k103 := hgw _ w_05e7d7f0
  unfold j_Mo_done_L372 at h
  refine lv_iload hx hb dX9_done_372 (lv_at hl 0 rfl) ?_
  refine lv_iconst (v := 0) hx hb dX9_done_374 (by decide) ?_
  refine lv_bipush (v := 7) hx hb dX9_done_375 (by decide) ?_
  have y_st28 : Ext st st' := by
    obtain ⟨r27, st28, h29, h⟩ := bR_some h
    refine Ext.trans (a := st) (b := st28) (by have t := x_Mo_isIn h29; exact t) ?_
    by_cases c30 : r27 = ((0 : Int32))
    · have h := ite_t c30 h
      obtain ⟨-, rfl⟩ := ret2 h; exact (show Ext st28 _ from Ext.refl st28)
    · have h := ite_f c30 h
      obtain ⟨-, rfl⟩ := ret2 h; exact (show Ext st28 _ from Ext.refl st28)
  obtain ⟨r27, st28, h29, h⟩ := bR_some h
  have x_st28 : Ext st st28 := by have t := x_Mo_isIn h29; exact t
  refine rf_calli (va_runS (As := [.int x4, .int ((0 : Int32)), .int ((7 : Int32))]) (rest := []) ⟨hx, hb, hml, hown, hts⟩ (c_Mo_isIn l D A b0 cA st x4 ((0 : Int32)) ((7 : Int32)) r27 st28 h29) (va_cwS 3 hts (gw_S w_b104d635 w_dc566d63 w_18f41a94 w_c8674231) rfl rfl rfl (by decide +kernel) ⟨by show 0 + 1 ≤ 5 * d + 13; omega, by show 8 + (3 + 11) + (0) ≤ 139 * d + 284; omega⟩) (rf_preS hK hO) rfl rfl hl.1 rfl (lv_room (Nat.le_of_ble_eq_true rfl)) dX9_done_377 ⟨by have q1 := E_st; have q2 := y_st28; unfold Ext at q1 q2; show (gR st 101 2 - gR st0 101 2) + 0 ≤ gR st' 101 2 - gR st0 101 2; omega, by have q1 := E_st; have q2 := y_st28; unfold Ext at q1 q2; show (gR st 101 3 - gR st0 101 3) + 0 ≤ gR st' 101 3 - gR st0 101 3; omega⟩) hO (fun H locs hO => ?_)
  have E_st28 : Ext st0 st28 := E_st.trans x_st28
  refine W.widen (k := gR st28 101 2 - gR st0 101 2) (n := gR st28 101 3 - gR st0 101 3) (by have q1 := E_st; have q2 := x_st28; unfold Ext at q1 q2; omega) (by have q1 := E_st; have q2 := x_st28; unfold Ext at q1 q2; omega) ?_
  refine lv_if_ne (tgt := 388) hx hb dX9_done_380 (by decide) (fun c30 => ?_) (fun c30 => ?_)
  · have h := ite_f c30 h
    refine lv_iconst (v := 4) hx hb dX9_done_388 (by decide) ?_
    obtain ⟨rfl, rfl⟩ := ret2 h; exact rf_iret hx hb hr hlocks hO dX9_done_389
  · have h := ite_t c30 h
    refine lv_bipush (v := 12) hx hb dX9_done_383 (by decide) ?_
    refine lv_goto (tgt := 389) hx hb dX9_done_385 (by decide) ?_
    obtain ⟨rfl, rfl⟩ := ret2 h; exact rf_iret hx hb hr hlocks hO dX9_done_389
set_option maxHeartbeats 4000000 in
set_option maxRecDepth 100000 in
theorem c_Mo_done_L202 {l : Launch} {D : va_G} {A : Nat → Prop} {b0 : Nat} {cA : Nat → ClassId} {RAN : Nat → Int64 → CwS → Option (Int32 × CwS)} {d : Nat} (hRx : ∀ (f : Nat) (v : Int64) (st : CwS) (r : Int32) (st' : CwS), RAN f v st = some (r, st') → Ext st st') (hRc : ∀ (st0 : CwS) (f fa : Nat) (hf : rfF st0 f fa) (v : Int64) (r : Int32) (st' : CwS), RAN f v st0 = some (r, st') → Met l yX9_ran (wv yX9_ran cX9_ran 6 (some .int)) ({ frames := 5 * d + 10, cells := gR st' 101 2 - gR st0 101 2, slots := gR st' 101 3 - gR st0 101 3, locals := 139 * d + 200 }) (va_Pc [.ref b0, .ref fa, .long v] (rfU D A b0 cA st0)) (rfQi D A b0 cA r st') (gR st' 101 2 - gR st0 101 2) (gR st' 101 3 - gR st0 101 3) A) {p : Program} {e : Env} {s : State} {m : MethodId} {args : Array Value} {below : List Frame} {meth : Method} {c : Code} (S : CallFix p m c cX9_done 11 s args (wv yX9_done cX9_done 11 (some .int)) RX9) (hr : meth.sig.returnType = some .int) (hlocks : meth.locks = false) (hK : rfK D cA s) (r : Int32) (st' : CwS) (st0 : CwS) (st : CwS) (x1 : Nat) (fx1 : Nat) (hf_fx1 : rfF st x1 fx1) (x3 : Int32) (x4 : Int32) (x6 : Int32) (H : Heap) (locs : List Loc) (ls : Array Slot) (h : j_Mo_done_L202 RAN x1 x3 x4 x6 st = some (r, st')) (hO : rfO D A b0 cA s st H locs) (hl : lv_has ls 11 [(0, .ref b0), (1, .ref fx1), (3, .int x3), (4, .int x4), (6, .int x6)]) (E_st : Ext st0 st) : W p l e ({ frames := 5 * d + 13, cells := gR st' 101 2 - gR st0 101 2, slots := gR st' 101 3 - gR st0 101 3, locals := 139 * d + 284 }) s m args below meth c H locs (gR st 101 2 - gR st0 101 2) (gR st 101 3 - gR st0 101 3) (MQ below (rfQi D A b0 cA r st') args s (gR st' 101 2 - gR st0 101 2) (gR st' 101 3 - gR st0 101 3) A) (F0 m 202 ls []) := by
  obtain ⟨hx, hb, hml, hown, hts⟩ := S
  have hgw := fun (w : Cond) (h : w ∈ gwW) => hts w (List.mem_cons_of_mem _ h)
  have k9 := hgw _ w_021ca238
  have k13 := hgw _ w_eb510d35
  have k23 := hgw _ w_3c9d41c6
  have k61 := hgw _ w_b3eed388
  have k64 := hgw _ w_6e237316
  have k67 := hgw _ w_1c4b90a6
  have k70 := hgw _ w_3b4ec9b7
  have k73 := hgw _ w_f693c208
  have k80 := hgw _ w_4931c96f
  have k97 := hgw _ w_bb1741c6
  have k100 := hgw _ w_36d04f4c
  have k103 := hgw _ w_05e7d7f0
  unfold j_Mo_done_L202 at h
  refine lv_iload_n hx hb dX9_done_202 rfl (lv_at hl 2 rfl) ?_
  by_cases c77 : x3 = (0 : Int32)
  · have h := ite_t c77 h
    refine lv_tableIn (tgt := 308) hx hb dX9_done_203 (by rw [c77]; decide) (by rw [c77]; decide) (by rw [c77]; rfl) (by decide) ?_
    refine lv_aload_n hx hb dX9_done_308 rfl (lv_at hl 1 rfl) ?_
    refine lv_iload hx hb dX9_done_309 (lv_at hl 3 rfl) ?_
    refine lv_i2l hx hb dX9_done_311 rfl ?_
    have y_st13 : Ext st st' := by
      obtain ⟨st13, h14, h⟩ := bV_some h
      refine Ext.trans (a := st) (b := st13) (by have t := x_MF_number h14; exact t) ?_
      obtain ⟨-, rfl⟩ := ret2 h; exact (show Ext st13 _ from Ext.refl st13)
    obtain ⟨st13, h14, h⟩ := bV_some h
    have x_st13 : Ext st st13 := by have t := x_MF_number h14; exact t
    refine rf_callv (va_runV (As := [.long x4.toInt64]) (rest := []) ⟨hx, hb, hml, hown, hts⟩ (c_MF_number l D A b0 cA st x1 fx1 hf_fx1 x4.toInt64 st13 h14) (cwV 1 hts (gw_V w_a50611e6 w_8ebaf0f1 w_dd21e4d3 w_18ea82d2 w_54e1986d) rfl rfl rfl (by decide +kernel) ⟨by show 1 + 1 ≤ 5 * d + 13; omega, by show 8 + (3 + 11) + (24) ≤ 139 * d + 284; omega⟩) (rf_preF hf_fx1 hK hO) rfl rfl hl.1 rfl (lv_room (Nat.le_of_ble_eq_true rfl)) dX9_done_312 ⟨by have q1 := E_st; have q2 := y_st13; unfold Ext at q1 q2; show (gR st 101 2 - gR st0 101 2) + 0 ≤ gR st' 101 2 - gR st0 101 2; omega, by have q1 := E_st; have q2 := y_st13; unfold Ext at q1 q2; show (gR st 101 3 - gR st0 101 3) + 0 ≤ gR st' 101 3 - gR st0 101 3; omega⟩) hO (fun H locs hO => ?_)
    have hf_fx1 : rfF st13 x1 fx1 := rfF.ext (show rfF st x1 fx1 from hf_fx1) x_st13
    have E_st13 : Ext st0 st13 := E_st.trans x_st13
    refine W.widen (k := gR st13 101 2 - gR st0 101 2) (n := gR st13 101 3 - gR st0 101 3) (by have q1 := E_st; have q2 := x_st13; unfold Ext at q1 q2; omega) (by have q1 := E_st; have q2 := x_st13; unfold Ext at q1 q2; omega) ?_
    refine lv_iconst (v := 0) hx hb dX9_done_315 (by decide) ?_
    obtain ⟨rfl, rfl⟩ := ret2 h; exact rf_iret hx hb hr hlocks hO dX9_done_316
  have h := ite_f c77 h
  by_cases c78 : x3 = (1 : Int32)
  · have h := ite_t c78 h
    refine lv_tableIn (tgt := 317) hx hb dX9_done_203 (by rw [c78]; decide) (by rw [c78]; decide) (by rw [c78]; rfl) (by decide) ?_
    refine lv_iload hx hb dX9_done_317 (lv_at hl 3 rfl) ?_
    refine lv_iconst (v := 0) hx hb dX9_done_319 (by decide) ?_
    refine lv_bipush (v := 7) hx hb dX9_done_320 (by decide) ?_
    have y_st16 : Ext st st' := by
      obtain ⟨r15, st16, h17, h⟩ := bR_some h
      refine Ext.trans (a := st) (b := st16) (by have t := x_Mo_isIn h17; exact t) ?_
      by_cases c18 : r15 = ((0 : Int32))
      · have h := ite_t c18 h
        obtain ⟨-, rfl⟩ := ret2 h; exact (show Ext st16 _ from Ext.refl st16)
      · have h := ite_f c18 h
        obtain ⟨-, h⟩ := ck_some h
        obtain ⟨st21, h22, h⟩ := bV_some h
        refine Ext.trans (a := st16) (b := st21) (by have t := x_MF_number h22; exact t) ?_
        obtain ⟨-, rfl⟩ := ret2 h; exact (show Ext st21 _ from Ext.refl st21)
    obtain ⟨r15, st16, h17, h⟩ := bR_some h
    have x_st16 : Ext st st16 := by have t := x_Mo_isIn h17; exact t
    refine rf_calli (va_runS (As := [.int x4, .int ((0 : Int32)), .int ((7 : Int32))]) (rest := []) ⟨hx, hb, hml, hown, hts⟩ (c_Mo_isIn l D A b0 cA st x4 ((0 : Int32)) ((7 : Int32)) r15 st16 h17) (va_cwS 3 hts (gw_S w_b104d635 w_dc566d63 w_18f41a94 w_c8674231) rfl rfl rfl (by decide +kernel) ⟨by show 0 + 1 ≤ 5 * d + 13; omega, by show 8 + (3 + 11) + (0) ≤ 139 * d + 284; omega⟩) (rf_preS hK hO) rfl rfl hl.1 rfl (lv_room (Nat.le_of_ble_eq_true rfl)) dX9_done_322 ⟨by have q1 := E_st; have q2 := y_st16; unfold Ext at q1 q2; show (gR st 101 2 - gR st0 101 2) + 0 ≤ gR st' 101 2 - gR st0 101 2; omega, by have q1 := E_st; have q2 := y_st16; unfold Ext at q1 q2; show (gR st 101 3 - gR st0 101 3) + 0 ≤ gR st' 101 3 - gR st0 101 3; omega⟩) hO (fun H locs hO => ?_)
    have hf_fx1 : rfF st16 x1 fx1 := rfF.ext (show rfF st x1 fx1 from hf_fx1) x_st16
    have E_st16 : Ext st0 st16 := E_st.trans x_st16
    refine W.widen (k := gR st16 101 2 - gR st0 101 2) (n := gR st16 101 3 - gR st0 101 3) (by have q1 := E_st; have q2 := x_st16; unfold Ext at q1 q2; omega) (by have q1 := E_st; have q2 := x_st16; unfold Ext at q1 q2; omega) ?_
    refine lv_if_ne (tgt := 331) hx hb dX9_done_325 (by decide) (fun c18 => ?_) (fun c18 => ?_)
    · have h := ite_f c18 h
      refine lv_aload_n hx hb dX9_done_331 rfl (lv_at hl 1 rfl) ?_
      refine lv_aload_n hx hb dX9_done_332 rfl (lv_at hl 0 rfl) ?_
      refine gf_Mo_leaves hx hb hgw iwMo hown hK hO k23 dX9_done_333 ?_
      refine lv_bipush (v := 8) hx hb dX9_done_336 (by decide) ?_
      refine lv_aload_n hx hb dX9_done_338 rfl (lv_at hl 1 rfl) ?_
      refine gf_MF_contract hx hb hgw iwMF hown hK hO hf_fx1 k67 dX9_done_339 ?_
      refine lv_imul hx hb dX9_done_342 ?_
      refine lv_iload hx hb dX9_done_343 (lv_at hl 3 rfl) ?_
      refine lv_iadd hx hb dX9_done_345 ?_
      obtain ⟨hc19, h⟩ := ck_some h
      refine al_MLeaves hx hb hK hO hc19 dX9_done_346 ?_
      have y_st21 : Ext st16 st' := by
        obtain ⟨st21, h22, h⟩ := bV_some h
        refine Ext.trans (a := st16) (b := st21) (by have t := x_MF_number h22; exact t) ?_
        obtain ⟨-, rfl⟩ := ret2 h; exact (show Ext st21 _ from Ext.refl st21)
      obtain ⟨st21, h22, h⟩ := bV_some h
      have x_st21 : Ext st16 st21 := by have t := x_MF_number h22; exact t
      refine rf_callv (va_runV (As := [.long (gL st16 0 0 (((((8 : Int32)) * (gI st16 14 x1 0)) + x4).toNatClampNeg))]) (rest := []) ⟨hx, hb, hml, hown, hts⟩ (c_MF_number l D A b0 cA st16 x1 fx1 hf_fx1 (gL st16 0 0 (((((8 : Int32)) * (gI st16 14 x1 0)) + x4).toNatClampNeg)) st21 h22) (cwV 1 hts (gw_V w_a50611e6 w_8ebaf0f1 w_dd21e4d3 w_18ea82d2 w_54e1986d) rfl rfl rfl (by decide +kernel) ⟨by show 1 + 1 ≤ 5 * d + 13; omega, by show 8 + (3 + 11) + (24) ≤ 139 * d + 284; omega⟩) (rf_preF hf_fx1 hK hO) rfl rfl hl.1 rfl (lv_room (Nat.le_of_ble_eq_true rfl)) dX9_done_347 ⟨by have q1 := E_st16; have q2 := y_st21; unfold Ext at q1 q2; show (gR st16 101 2 - gR st0 101 2) + 0 ≤ gR st' 101 2 - gR st0 101 2; omega, by have q1 := E_st16; have q2 := y_st21; unfold Ext at q1 q2; show (gR st16 101 3 - gR st0 101 3) + 0 ≤ gR st' 101 3 - gR st0 101 3; omega⟩) hO (fun H locs hO => ?_)
      have hf_fx1 : rfF st21 x1 fx1 := rfF.ext (show rfF st16 x1 fx1 from hf_fx1) x_st21
      have E_st21 : Ext st0 st21 := E_st16.trans x_st21
      refine W.widen (k := gR st21 101 2 - gR st0 101 2) (n := gR st21 101 3 - gR st0 101 3) (by have q1 := E_st16; have q2 := x_st21; unfold Ext at q1 q2; omega) (by have q1 := E_st16; have q2 := x_st21; unfold Ext at q1 q2; omega) ?_
      refine lv_iconst (v := 0) hx hb dX9_done_350 (by decide) ?_
      obtain ⟨rfl, rfl⟩ := ret2 h; exact rf_iret hx hb hr hlocks hO dX9_done_351
    · have h := ite_t c18 h
      refine lv_bipush (v := 12) hx hb dX9_done_328 (by decide) ?_
      obtain ⟨rfl, rfl⟩ := ret2 h; exact rf_iret hx hb hr hlocks hO dX9_done_330
  have h := ite_f c78 h
  by_cases c79 : x3 = (2 : Int32)
  · have h := ite_t c79 h
    refine lv_tableIn (tgt := 352) hx hb dX9_done_203 (by rw [c79]; decide) (by rw [c79]; decide) (by rw [c79]; rfl) (by decide) ?_
    refine lv_iload hx hb dX9_done_352 (lv_at hl 3 rfl) ?_
    refine lv_iconst (v := 0) hx hb dX9_done_354 (by decide) ?_
    refine lv_bipush (v := 7) hx hb dX9_done_355 (by decide) ?_
    have y_st24 : Ext st st' := by
      obtain ⟨r23, st24, h25, h⟩ := bR_some h
      refine Ext.trans (a := st) (b := st24) (by have t := x_Mo_isIn h25; exact t) ?_
      by_cases c26 : r23 = ((0 : Int32))
      · have h := ite_t c26 h
        have t := x_Mo_done_L372 hRx h; exact (show Ext st24 _ from t)
      · have h := ite_f c26 h
        obtain ⟨r31, st32, h33, h⟩ := bR_some h
        refine Ext.trans (a := st24) (b := st32) (by have t := x_MF_isNumber h33; exact t) ?_
        by_cases c34 : r31 = ((0 : Int32))
        · have h := ite_t c34 h
          have t := x_Mo_done_L372 hRx h; exact (show Ext st32 _ from t)
        · have h := ite_f c34 h
          obtain ⟨-, h⟩ := ck_some h
          obtain ⟨-, h⟩ := ck_some h
          obtain ⟨-, rfl⟩ := ret2 h; exact (show Ext st32 _ from Ext.refl st32)
    obtain ⟨r23, st24, h25, h⟩ := bR_some h
    have x_st24 : Ext st st24 := by have t := x_Mo_isIn h25; exact t
    refine rf_calli (va_runS (As := [.int x4, .int ((0 : Int32)), .int ((7 : Int32))]) (rest := []) ⟨hx, hb, hml, hown, hts⟩ (c_Mo_isIn l D A b0 cA st x4 ((0 : Int32)) ((7 : Int32)) r23 st24 h25) (va_cwS 3 hts (gw_S w_b104d635 w_dc566d63 w_18f41a94 w_c8674231) rfl rfl rfl (by decide +kernel) ⟨by show 0 + 1 ≤ 5 * d + 13; omega, by show 8 + (3 + 11) + (0) ≤ 139 * d + 284; omega⟩) (rf_preS hK hO) rfl rfl hl.1 rfl (lv_room (Nat.le_of_ble_eq_true rfl)) dX9_done_357 ⟨by have q1 := E_st; have q2 := y_st24; unfold Ext at q1 q2; show (gR st 101 2 - gR st0 101 2) + 0 ≤ gR st' 101 2 - gR st0 101 2; omega, by have q1 := E_st; have q2 := y_st24; unfold Ext at q1 q2; show (gR st 101 3 - gR st0 101 3) + 0 ≤ gR st' 101 3 - gR st0 101 3; omega⟩) hO (fun H locs hO => ?_)
    have hf_fx1 : rfF st24 x1 fx1 := rfF.ext (show rfF st x1 fx1 from hf_fx1) x_st24
    have E_st24 : Ext st0 st24 := E_st.trans x_st24
    refine W.widen (k := gR st24 101 2 - gR st0 101 2) (n := gR st24 101 3 - gR st0 101 3) (by have q1 := E_st; have q2 := x_st24; unfold Ext at q1 q2; omega) (by have q1 := E_st; have q2 := x_st24; unfold Ext at q1 q2; omega) ?_
    refine lv_if_eq (tgt := 372) hx hb dX9_done_360 (by decide) (fun c26 => ?_) (fun c26 => ?_)
    · have h := ite_t c26 h
      exact c_Mo_done_L372 hRx hRc ⟨hx, hb, hml, hown, hts⟩ hr hlocks hK r st' st0 st24 x4 _ _ _ h hO (lv_sub hl [3] rfl) (show Ext st0 _ from E_st24)
    · have h := ite_f c26 h
      refine lv_aload_n hx hb dX9_done_363 rfl (lv_at hl 1 rfl) ?_
      refine lv_iload hx hb dX9_done_364 (lv_at hl 4 rfl) ?_
      have y_st32 : Ext st24 st' := by
        obtain ⟨r31, st32, h33, h⟩ := bR_some h
        refine Ext.trans (a := st24) (b := st32) (by have t := x_MF_isNumber h33; exact t) ?_
        by_cases c34 : r31 = ((0 : Int32))
        · have h := ite_t c34 h
          have t := x_Mo_done_L372 hRx h; exact (show Ext st32 _ from t)
        · have h := ite_f c34 h
          obtain ⟨-, h⟩ := ck_some h
          obtain ⟨-, h⟩ := ck_some h
          obtain ⟨-, rfl⟩ := ret2 h; exact (show Ext st32 _ from Ext.refl st32)
      obtain ⟨r31, st32, h33, h⟩ := bR_some h
      have x_st32 : Ext st24 st32 := by have t := x_MF_isNumber h33; exact t
      refine rf_calli (va_runV (As := [.int x6]) (rest := []) ⟨hx, hb, hml, hown, hts⟩ (c_MF_isNumber l D A b0 cA st24 x1 fx1 hf_fx1 x6 r31 st32 h33) (cwV 1 hts (gw_V w_c76bdf02 w_8ae0f39a w_9dc8e263 w_18ea82d2 w_a2deccac) rfl rfl rfl (by decide +kernel) ⟨by show 0 + 1 ≤ 5 * d + 13; omega, by show 8 + (2 + 11) + (0) ≤ 139 * d + 284; omega⟩) (rf_preF hf_fx1 hK hO) rfl rfl hl.1 rfl (lv_room (Nat.le_of_ble_eq_true rfl)) dX9_done_366 ⟨by have q1 := E_st24; have q2 := y_st32; unfold Ext at q1 q2; show (gR st24 101 2 - gR st0 101 2) + 0 ≤ gR st' 101 2 - gR st0 101 2; omega, by have q1 := E_st24; have q2 := y_st32; unfold Ext at q1 q2; show (gR st24 101 3 - gR st0 101 3) + 0 ≤ gR st' 101 3 - gR st0 101 3; omega⟩) hO (fun H locs hO => ?_)
      have hf_fx1 : rfF st32 x1 fx1 := rfF.ext (show rfF st24 x1 fx1 from hf_fx1) x_st32
      have E_st32 : Ext st0 st32 := E_st24.trans x_st32
      refine W.widen (k := gR st32 101 2 - gR st0 101 2) (n := gR st32 101 3 - gR st0 101 3) (by have q1 := E_st24; have q2 := x_st32; unfold Ext at q1 q2; omega) (by have q1 := E_st24; have q2 := x_st32; unfold Ext at q1 q2; omega) ?_
      refine lv_if_ne (tgt := 390) hx hb dX9_done_369 (by decide) (fun c34 => ?_) (fun c34 => ?_)
      · have h := ite_f c34 h
        refine lv_aload_n hx hb dX9_done_390 rfl (lv_at hl 0 rfl) ?_
        refine gf_Mo_leaves hx hb hgw iwMo hown hK hO k23 dX9_done_391 ?_
        refine lv_bipush (v := 8) hx hb dX9_done_394 (by decide) ?_
        refine lv_aload_n hx hb dX9_done_396 rfl (lv_at hl 1 rfl) ?_
        refine gf_MF_contract hx hb hgw iwMF hown hK hO hf_fx1 k67 dX9_done_397 ?_
        refine lv_imul hx hb dX9_done_400 ?_
        refine lv_iload hx hb dX9_done_401 (lv_at hl 3 rfl) ?_
        refine lv_iadd hx hb dX9_done_403 ?_
        refine lv_aload_n hx hb dX9_done_404 rfl (lv_at hl 1 rfl) ?_
        refine gf_MF_n hx hb hgw iwMF hown hK hO hf_fx1 k97 dX9_done_405 ?_
        refine lv_iload hx hb dX9_done_408 (lv_at hl 4 rfl) ?_
        obtain ⟨hc35, h⟩ := ck_some h
        refine al_MN hx hb hK hO hf_fx1 hc35 dX9_done_410 ?_
        obtain ⟨hc36, h⟩ := ck_some h
        refine as_MLeaves hx hb hK hO hc36 dX9_done_411 (fun H locs hO => ?_)
        refine lv_iconst (v := 0) hx hb dX9_done_412 (by decide) ?_
        obtain ⟨rfl, rfl⟩ := ret2 h; exact rf_iret hx hb hr hlocks hO dX9_done_413
      · have h := ite_t c34 h
        exact c_Mo_done_L372 hRx hRc ⟨hx, hb, hml, hown, hts⟩ hr hlocks hK r st' st0 st32 x4 _ _ _ h hO (lv_sub hl [3] rfl) (show Ext st0 _ from E_st32)
  have h := ite_f c79 h
  by_cases c80 : x3 = (3 : Int32)
  · have h := ite_t c80 h
    refine lv_tableIn (tgt := 414) hx hb dX9_done_203 (by rw [c80]; decide) (by rw [c80]; decide) (by rw [c80]; rfl) (by decide) ?_
    refine lv_aload_n hx hb dX9_done_414 rfl (lv_at hl 1 rfl) ?_
    refine lv_dup hx hb dX9_done_415 rfl ?_
    refine gf_MF_high hx hb hgw iwMF hown hK hO hf_fx1 k80 dX9_done_416 ?_
    refine lv_iconst (v := 1) hx hb dX9_done_419 (by decide) ?_
    refine lv_iadd hx hb dX9_done_420 ?_
    refine pf_MF_high hx hb hgw iwMF hown hK hO hf_fx1 k80 dX9_done_421 (fun H locs hO => ?_)
    refine lv_aload_n hx hb dX9_done_424 rfl (lv_at hl 1 rfl) ?_
    refine lv_aload_n hx hb dX9_done_425 rfl (lv_at hl 1 rfl) ?_
    refine gf_MF_sorts hx hb hgw iwMF hown hK hO hf_fx1 k100 dX9_done_426 ?_
    refine lv_iload hx hb dX9_done_429 (lv_at hl 4 rfl) ?_
    obtain ⟨hc37, h⟩ := ck_some h
    refine al_MSorts hx hb hK hO hf_fx1 hc37 dX9_done_431 ?_
    refine lv_aload_n hx hb dX9_done_432 rfl (lv_at hl 1 rfl) ?_
    refine gf_MF_n hx hb hgw iwMF hown hK hO hf_fx1 k97 dX9_done_433 ?_
    refine lv_iload hx hb dX9_done_436 (lv_at hl 4 rfl) ?_
    obtain ⟨hc38, h⟩ := ck_some h
    refine al_MN hx hb hK hO hf_fx1 hc38 dX9_done_438 ?_
    refine lv_aload_n hx hb dX9_done_439 rfl (lv_at hl 1 rfl) ?_
    refine gf_MF_rows hx hb hgw iwMF hown hK hO hf_fx1 k103 dX9_done_440 ?_
    refine lv_iload hx hb dX9_done_443 (lv_at hl 4 rfl) ?_
    obtain ⟨hc39, h⟩ := ck_some h
    refine al_MRows hx hb hK hO hf_fx1 hc39 dX9_done_445 ?_
    have y_st41 : Ext st st' := by
      obtain ⟨st41, h42, h⟩ := bV_some h
      refine Ext.trans (a := st) (b := st41) (by have t := x_MF_push h42; exact t) ?_
      obtain ⟨-, rfl⟩ := ret2 h; exact (show Ext st41 _ from Ext.refl st41)
    obtain ⟨st41, h42, h⟩ := bV_some h
    have x_st41 : Ext st st41 := by have t := x_MF_push h42; exact t
    refine rf_callv (va_runV (As := [.int (gI (sI st 18 x1 0 ((gI st 18 x1 0) + ((1 : Int32)))) 21 x1 x6.toNatClampNeg), .long (gL (sI st 18 x1 0 ((gI st 18 x1 0) + ((1 : Int32)))) 7 x1 x6.toNatClampNeg), rq (gR (sI st 18 x1 0 ((gI st 18 x1 0) + ((1 : Int32)))) 50 (16 * x1 + x6.toNatClampNeg))]) (rest := []) ⟨hx, hb, hml, hown, hts⟩ (c_MF_push l D A b0 cA (sI st 18 x1 0 ((gI st 18 x1 0) + ((1 : Int32)))) x1 fx1 hf_fx1 (gI (sI st 18 x1 0 ((gI st 18 x1 0) + ((1 : Int32)))) 21 x1 x6.toNatClampNeg) (gL (sI st 18 x1 0 ((gI st 18 x1 0) + ((1 : Int32)))) 7 x1 x6.toNatClampNeg) (gR (sI st 18 x1 0 ((gI st 18 x1 0) + ((1 : Int32)))) 50 (16 * x1 + x6.toNatClampNeg)) st41 h42) (cwV 3 hts (gw_V w_e1c787ee w_e0cb4f46 w_a23f96d7 w_18ea82d2 w_3edceb25) rfl rfl rfl (by decide +kernel) ⟨by show 0 + 1 ≤ 5 * d + 13; omega, by show 8 + (5 + 11) + (0) ≤ 139 * d + 284; omega⟩) (rf_preF hf_fx1 hK hO) rfl rfl hl.1 rfl (lv_room (Nat.le_of_ble_eq_true rfl)) dX9_done_446 ⟨by have q1 := E_st; have q2 := y_st41; unfold Ext at q1 q2; show (gR st 101 2 - gR st0 101 2) + 0 ≤ gR st' 101 2 - gR st0 101 2; omega, by have q1 := E_st; have q2 := y_st41; unfold Ext at q1 q2; show (gR st 101 3 - gR st0 101 3) + 0 ≤ gR st' 101 3 - gR st0 101 3; omega⟩) hO (fun H locs hO => ?_)
    have hf_fx1 : rfF st41 x1 fx1 := rfF.ext (show rfF st x1 fx1 from hf_fx1) x_st41
    have E_st41 : Ext st0 st41 := E_st.trans x_st41
    refine W.widen (k := gR st41 101 2 - gR st0 101 2) (n := gR st41 101 3 - gR st0 101 3) (by have q1 := E_st; have q2 := x_st41; unfold Ext at q1 q2; omega) (by have q1 := E_st; have q2 := x_st41; unfold Ext at q1 q2; omega) ?_
    refine lv_iconst (v := 0) hx hb dX9_done_449 (by decide) ?_
    obtain ⟨rfl, rfl⟩ := ret2 h; exact rf_iret hx hb hr hlocks hO dX9_done_450
  have h := ite_f c80 h
  by_cases c81 : x3 = (4 : Int32)
  · have h := ite_t c81 h
    refine lv_tableIn (tgt := 451) hx hb dX9_done_203 (by rw [c81]; decide) (by rw [c81]; decide) (by rw [c81]; rfl) (by decide) ?_
    refine lv_iconst (v := 0) hx hb dX9_done_451 (by decide) ?_
    obtain ⟨rfl, rfl⟩ := ret2 h; exact rf_iret hx hb hr hlocks hO dX9_done_452
  have h := ite_f c81 h
  by_cases c82 : x3 = (5 : Int32)
  · have h := ite_t c82 h
    refine lv_tableIn (tgt := 453) hx hb dX9_done_203 (by rw [c82]; decide) (by rw [c82]; decide) (by rw [c82]; rfl) (by decide) ?_
    refine lv_aload_n hx hb dX9_done_453 rfl (lv_at hl 1 rfl) ?_
    refine gf_MF_sorts hx hb hgw iwMF hown hK hO hf_fx1 k100 dX9_done_454 ?_
    refine lv_iload hx hb dX9_done_457 (lv_at hl 4 rfl) ?_
    obtain ⟨hc43, h⟩ := ck_some h
    refine al_MSorts hx hb hK hO hf_fx1 hc43 dX9_done_459 ?_
    refine lv_istore (lv' := [(7, .int (gI st 21 x1 x6.toNatClampNeg)), (0, .ref b0), (1, .ref fx1), (3, .int x3), (4, .int x4), (6, .int x6)]) hx hb dX9_done_460 hl (by decide) rfl (fun ls hl => ?_)
    refine lv_aload_n hx hb dX9_done_462 rfl (lv_at hl 2 rfl) ?_
    refine gf_MF_n hx hb hgw iwMF hown hK hO hf_fx1 k97 dX9_done_463 ?_
    refine lv_iload hx hb dX9_done_466 (lv_at hl 5 rfl) ?_
    obtain ⟨hc44, h⟩ := ck_some h
    refine al_MN hx hb hK hO hf_fx1 hc44 dX9_done_468 ?_
    refine lv_lstore (lv' := [(8, .long (gL st 7 x1 x6.toNatClampNeg)), (7, .int (gI st 21 x1 x6.toNatClampNeg)), (0, .ref b0), (1, .ref fx1), (3, .int x3), (4, .int x4), (6, .int x6)]) hx hb dX9_done_469 hl (by decide) rfl (fun ls hl => ?_)
    refine lv_aload_n hx hb dX9_done_471 rfl (lv_at hl 3 rfl) ?_
    refine gf_MF_rows hx hb hgw iwMF hown hK hO hf_fx1 k103 dX9_done_472 ?_
    refine lv_iload hx hb dX9_done_475 (lv_at hl 6 rfl) ?_
    obtain ⟨hc45, h⟩ := ck_some h
    refine al_MRows hx hb hK hO hf_fx1 hc45 dX9_done_477 ?_
    refine rq_astore (r := gR st 50 (16 * x1 + x6.toNatClampNeg)) (lv' := [(10, rq (gR st 50 (16 * x1 + x6.toNatClampNeg))), (8, .long (gL st 7 x1 x6.toNatClampNeg)), (7, .int (gI st 21 x1 x6.toNatClampNeg)), (0, .ref b0), (1, .ref fx1), (3, .int x3), (4, .int x4), (6, .int x6)]) hx hb dX9_done_478 hl (by decide) rfl (fun ls hl => ?_)
    refine lv_aload_n hx hb dX9_done_480 rfl (lv_at hl 4 rfl) ?_
    refine lv_aload_n hx hb dX9_done_481 rfl (lv_at hl 4 rfl) ?_
    refine gf_MF_sorts hx hb hgw iwMF hown hK hO hf_fx1 k100 dX9_done_482 ?_
    refine lv_iload hx hb dX9_done_485 (lv_at hl 7 rfl) ?_
    refine lv_iconst (v := 1) hx hb dX9_done_487 (by decide) ?_
    refine lv_iadd hx hb dX9_done_488 ?_
    obtain ⟨hc46, h⟩ := ck_some h
    refine al_MSorts hx hb hK hO hf_fx1 hc46 dX9_done_489 ?_
    refine lv_aload_n hx hb dX9_done_490 rfl (lv_at hl 4 rfl) ?_
    refine gf_MF_n hx hb hgw iwMF hown hK hO hf_fx1 k97 dX9_done_491 ?_
    refine lv_iload hx hb dX9_done_494 (lv_at hl 7 rfl) ?_
    refine lv_iconst (v := 1) hx hb dX9_done_496 (by decide) ?_
    refine lv_iadd hx hb dX9_done_497 ?_
    obtain ⟨hc47, h⟩ := ck_some h
    refine al_MN hx hb hK hO hf_fx1 hc47 dX9_done_498 ?_
    refine lv_aload_n hx hb dX9_done_499 rfl (lv_at hl 4 rfl) ?_
    refine gf_MF_rows hx hb hgw iwMF hown hK hO hf_fx1 k103 dX9_done_500 ?_
    refine lv_iload hx hb dX9_done_503 (lv_at hl 7 rfl) ?_
    refine lv_iconst (v := 1) hx hb dX9_done_505 (by decide) ?_
    refine lv_iadd hx hb dX9_done_506 ?_
    obtain ⟨hc48, h⟩ := ck_some h
    refine al_MRows hx hb hK hO hf_fx1 hc48 dX9_done_507 ?_
    have y_st50 : Ext st st' := by
      obtain ⟨st50, h51, h⟩ := bV_some h
      refine Ext.trans (a := st) (b := st50) (by have t := x_MF_push h51; exact t) ?_
      obtain ⟨st53, h54, h⟩ := bV_some h
      refine Ext.trans (a := st50) (b := st53) (by have t := x_MF_push h54; exact t) ?_
      obtain ⟨-, rfl⟩ := ret2 h; exact (show Ext st53 _ from Ext.refl st53)
    obtain ⟨st50, h51, h⟩ := bV_some h
    have x_st50 : Ext st st50 := by have t := x_MF_push h51; exact t
    refine rf_callv (va_runV (As := [.int (gI st 21 x1 ((x6 + ((1 : Int32))).toNatClampNeg)), .long (gL st 7 x1 ((x6 + ((1 : Int32))).toNatClampNeg)), rq (gR st 50 (16 * x1 + ((x6 + ((1 : Int32))).toNatClampNeg)))]) (rest := []) ⟨hx, hb, hml, hown, hts⟩ (c_MF_push l D A b0 cA st x1 fx1 hf_fx1 (gI st 21 x1 ((x6 + ((1 : Int32))).toNatClampNeg)) (gL st 7 x1 ((x6 + ((1 : Int32))).toNatClampNeg)) (gR st 50 (16 * x1 + ((x6 + ((1 : Int32))).toNatClampNeg))) st50 h51) (cwV 3 hts (gw_V w_e1c787ee w_e0cb4f46 w_a23f96d7 w_18ea82d2 w_3edceb25) rfl rfl rfl (by decide +kernel) ⟨by show 0 + 1 ≤ 5 * d + 13; omega, by show 8 + (5 + 11) + (0) ≤ 139 * d + 284; omega⟩) (rf_preF hf_fx1 hK hO) rfl rfl hl.1 rfl (lv_room (Nat.le_of_ble_eq_true rfl)) dX9_done_508 ⟨by have q1 := E_st; have q2 := y_st50; unfold Ext at q1 q2; show (gR st 101 2 - gR st0 101 2) + 0 ≤ gR st' 101 2 - gR st0 101 2; omega, by have q1 := E_st; have q2 := y_st50; unfold Ext at q1 q2; show (gR st 101 3 - gR st0 101 3) + 0 ≤ gR st' 101 3 - gR st0 101 3; omega⟩) hO (fun H locs hO => ?_)
    have hf_fx1 : rfF st50 x1 fx1 := rfF.ext (show rfF st x1 fx1 from hf_fx1) x_st50
    have E_st50 : Ext st0 st50 := E_st.trans x_st50
    refine W.widen (k := gR st50 101 2 - gR st0 101 2) (n := gR st50 101 3 - gR st0 101 3) (by have q1 := E_st; have q2 := x_st50; unfold Ext at q1 q2; omega) (by have q1 := E_st; have q2 := x_st50; unfold Ext at q1 q2; omega) ?_
    refine lv_aload_n hx hb dX9_done_511 rfl (lv_at hl 4 rfl) ?_
    refine lv_iload hx hb dX9_done_512 (lv_at hl 2 rfl) ?_
    refine lv_lload hx hb dX9_done_514 (lv_at hl 1 rfl) ?_
    refine rq_aload hx hb dX9_done_516 (lv_at hl 0 rfl) ?_
    have y_st53 : Ext st50 st' := by
      obtain ⟨st53, h54, h⟩ := bV_some h
      refine Ext.trans (a := st50) (b := st53) (by have t := x_MF_push h54; exact t) ?_
      obtain ⟨-, rfl⟩ := ret2 h; exact (show Ext st53 _ from Ext.refl st53)
    obtain ⟨st53, h54, h⟩ := bV_some h
    have x_st53 : Ext st50 st53 := by have t := x_MF_push h54; exact t
    refine rf_callv (va_runV (As := [.int (gI st 21 x1 x6.toNatClampNeg), .long (gL st 7 x1 x6.toNatClampNeg), rq (gR st 50 (16 * x1 + x6.toNatClampNeg))]) (rest := []) ⟨hx, hb, hml, hown, hts⟩ (c_MF_push l D A b0 cA st50 x1 fx1 hf_fx1 (gI st 21 x1 x6.toNatClampNeg) (gL st 7 x1 x6.toNatClampNeg) (gR st 50 (16 * x1 + x6.toNatClampNeg)) st53 h54) (cwV 3 hts (gw_V w_e1c787ee w_e0cb4f46 w_a23f96d7 w_18ea82d2 w_3edceb25) rfl rfl rfl (by decide +kernel) ⟨by show 0 + 1 ≤ 5 * d + 13; omega, by show 8 + (5 + 11) + (0) ≤ 139 * d + 284; omega⟩) (rf_preF hf_fx1 hK hO) rfl rfl hl.1 rfl (lv_room (Nat.le_of_ble_eq_true rfl)) dX9_done_518 ⟨by have q1 := E_st50; have q2 := y_st53; unfold Ext at q1 q2; show (gR st50 101 2 - gR st0 101 2) + 0 ≤ gR st' 101 2 - gR st0 101 2; omega, by have q1 := E_st50; have q2 := y_st53; unfold Ext at q1 q2; show (gR st50 101 3 - gR st0 101 3) + 0 ≤ gR st' 101 3 - gR st0 101 3; omega⟩) hO (fun H locs hO => ?_)
    have hf_fx1 : rfF st53 x1 fx1 := rfF.ext (show rfF st50 x1 fx1 from hf_fx1) x_st53
    have E_st53 : Ext st0 st53 := E_st50.trans x_st53
    refine W.widen (k := gR st53 101 2 - gR st0 101 2) (n := gR st53 101 3 - gR st0 101 3) (by have q1 := E_st50; have q2 := x_st53; unfold Ext at q1 q2; omega) (by have q1 := E_st50; have q2 := x_st53; unfold Ext at q1 q2; omega) ?_
    refine lv_iconst (v := 0) hx hb dX9_done_521 (by decide) ?_
    obtain ⟨rfl, rfl⟩ := ret2 h; exact rf_iret hx hb hr hlocks hO dX9_done_522
  have h := ite_f c82 h
  by_cases c83 : x3 = (22 : Int32)
  · have h := ite_t c83 h
    refine lv_tableIn (tgt := 523) hx hb dX9_done_203 (by rw [c83]; decide) (by rw [c83]; decide) (by rw [c83]; rfl) (by decide) ?_
    refine lv_aload_n hx hb dX9_done_523 rfl (lv_at hl 1 rfl) ?_
    refine lv_iconst (v := 3) hx hb dX9_done_524 (by decide) ?_
    refine lv_lconst (v := 0) hx hb dX9_done_525 (by decide) ?_
    refine lv_null hx hb dX9_done_526 ?_
    have y_st56 : Ext st st' := by
      obtain ⟨st56, h57, h⟩ := bV_some h
      refine Ext.trans (a := st) (b := st56) (by have t := x_MF_push h57; exact t) ?_
      obtain ⟨-, rfl⟩ := ret2 h; exact (show Ext st56 _ from Ext.refl st56)
    obtain ⟨st56, h57, h⟩ := bV_some h
    have x_st56 : Ext st st56 := by have t := x_MF_push h57; exact t
    refine rf_callv (va_runV (As := [.int ((3 : Int32)), .long ((0 : Int64)), rq 0]) (rest := []) ⟨hx, hb, hml, hown, hts⟩ (c_MF_push l D A b0 cA st x1 fx1 hf_fx1 ((3 : Int32)) ((0 : Int64)) 0 st56 h57) (cwV 3 hts (gw_V w_e1c787ee w_e0cb4f46 w_a23f96d7 w_18ea82d2 w_3edceb25) rfl rfl rfl (by decide +kernel) ⟨by show 0 + 1 ≤ 5 * d + 13; omega, by show 8 + (5 + 11) + (0) ≤ 139 * d + 284; omega⟩) (rf_preF hf_fx1 hK hO) rfl rfl hl.1 rfl (lv_room (Nat.le_of_ble_eq_true rfl)) dX9_done_527 ⟨by have q1 := E_st; have q2 := y_st56; unfold Ext at q1 q2; show (gR st 101 2 - gR st0 101 2) + 0 ≤ gR st' 101 2 - gR st0 101 2; omega, by have q1 := E_st; have q2 := y_st56; unfold Ext at q1 q2; show (gR st 101 3 - gR st0 101 3) + 0 ≤ gR st' 101 3 - gR st0 101 3; omega⟩) hO (fun H locs hO => ?_)
    have hf_fx1 : rfF st56 x1 fx1 := rfF.ext (show rfF st x1 fx1 from hf_fx1) x_st56
    have E_st56 : Ext st0 st56 := E_st.trans x_st56
    refine W.widen (k := gR st56 101 2 - gR st0 101 2) (n := gR st56 101 3 - gR st0 101 3) (by have q1 := E_st; have q2 := x_st56; unfold Ext at q1 q2; omega) (by have q1 := E_st; have q2 := x_st56; unfold Ext at q1 q2; omega) ?_
    refine lv_iconst (v := 0) hx hb dX9_done_530 (by decide) ?_
    obtain ⟨rfl, rfl⟩ := ret2 h; exact rf_iret hx hb hr hlocks hO dX9_done_531
  have h := ite_f c83 h
  refine cw_tableD (tgt := 532) hx hb dX9_done_203 (by
    have e0 := lv_neT (a := 0) c77 (by decide)
    have e1 := lv_neT (a := 1) c78 (by decide)
    have e2 := lv_neT (a := 2) c79 (by decide)
    have e3 := lv_neT (a := 3) c80 (by decide)
    have e4 := lv_neT (a := 4) c81 (by decide)
    have e5 := lv_neT (a := 5) c82 (by decide)
    have e6 := lv_neT (a := 22) c83 (by decide)
    by_cases q1 : x3.toInt < 0
    · exact Or.inl q1
    by_cases q2 : (22 : Int) < x3.toInt
    · exact Or.inr (Or.inl q2)
    have q3 : x3.toInt = 6 ∨ x3.toInt = 7 ∨ x3.toInt = 8 ∨ x3.toInt = 9 ∨ x3.toInt = 10 ∨ x3.toInt = 11 ∨ x3.toInt = 12 ∨ x3.toInt = 13 ∨ x3.toInt = 14 ∨ x3.toInt = 15 ∨ x3.toInt = 16 ∨ x3.toInt = 17 ∨ x3.toInt = 18 ∨ x3.toInt = 19 ∨ x3.toInt = 20 ∨ x3.toInt = 21 := by omega
    rcases q3 with q3 | q3 | q3 | q3 | q3 | q3 | q3 | q3 | q3 | q3 | q3 | q3 | q3 | q3 | q3 | q3 <;> (rw [q3]; exact Or.inr (Or.inr rfl))) (by decide) ?_
  refine lv_aload_n hx hb dX9_done_532 rfl (lv_at hl 0 rfl) ?_
  refine lv_aload_n hx hb dX9_done_533 rfl (lv_at hl 1 rfl) ?_
  refine lv_iload_n hx hb dX9_done_534 rfl (lv_at hl 2 rfl) ?_
  refine lv_iload hx hb dX9_done_535 (lv_at hl 3 rfl) ?_
  refine lv_iload hx hb dX9_done_537 (lv_at hl 4 rfl) ?_
  have y_st59 : Ext st st' := by
    obtain ⟨r58, st59, h60, h⟩ := bR_some h
    refine Ext.trans (a := st) (b := st59) (by have t := x_Mo_went hRx h60; exact t) ?_
    obtain ⟨-, rfl⟩ := ret2 h; exact (show Ext st59 _ from Ext.refl st59)
  obtain ⟨r58, st59, h60, h⟩ := bR_some h
  have x_st59 : Ext st st59 := by have t := x_Mo_went hRx h60; exact t
  have y2_st59 : Ext st59 st' := by
    obtain ⟨-, rfl⟩ := ret2 h; exact (show Ext st59 _ from Ext.refl st59)
  refine rf_calli (va_runV (As := [.ref fx1, .int x3, .int x4, .int x6]) (rest := []) ⟨hx, hb, hml, hown, hts⟩ (c_Mo_went l D A b0 cA RAN d hRx hRc st x1 fx1 hf_fx1 x3 x4 x6 r58 st59 h60) (cwV 4 hts (gw_V w_c90cac2c w_29623339 w_cc0900f9 w_18f41a94 w_81c9a7d5) rfl rfl rfl (by decide +kernel) ⟨by show (5 * d + 12) + 1 ≤ 5 * d + 13; omega, by show 8 + (6 + 11) + (139 * d + 259) ≤ 139 * d + 284; omega⟩) (rf_preM hK hO) rfl rfl hl.1 rfl (lv_room (Nat.le_of_ble_eq_true rfl)) dX9_done_539 ⟨by have q1 := E_st; have q2 := x_st59; have q3 := y2_st59; unfold Ext at q1 q2 q3; show (gR st 101 2 - gR st0 101 2) + (gR st59 101 2 - gR st 101 2) ≤ gR st' 101 2 - gR st0 101 2; omega, by have q1 := E_st; have q2 := x_st59; have q3 := y2_st59; unfold Ext at q1 q2 q3; show (gR st 101 3 - gR st0 101 3) + (gR st59 101 3 - gR st 101 3) ≤ gR st' 101 3 - gR st0 101 3; omega⟩) hO (fun H locs hO => ?_)
  have hf_fx1 : rfF st59 x1 fx1 := rfF.ext (show rfF st x1 fx1 from hf_fx1) x_st59
  have E_st59 : Ext st0 st59 := E_st.trans x_st59
  refine W.widen (k := gR st59 101 2 - gR st0 101 2) (n := gR st59 101 3 - gR st0 101 3) (by have q1 := E_st; have q2 := x_st59; unfold Ext at q1 q2; omega) (by have q1 := E_st; have q2 := x_st59; unfold Ext at q1 q2; omega) ?_
  obtain ⟨rfl, rfl⟩ := ret2 h; exact rf_iret hx hb hr hlocks hO dX9_done_542
set_option maxHeartbeats 4000000 in
set_option maxRecDepth 100000 in
theorem c_Mo_done_L175 {l : Launch} {D : va_G} {A : Nat → Prop} {b0 : Nat} {cA : Nat → ClassId} {RAN : Nat → Int64 → CwS → Option (Int32 × CwS)} {d : Nat} (hRx : ∀ (f : Nat) (v : Int64) (st : CwS) (r : Int32) (st' : CwS), RAN f v st = some (r, st') → Ext st st') (hRc : ∀ (st0 : CwS) (f fa : Nat) (hf : rfF st0 f fa) (v : Int64) (r : Int32) (st' : CwS), RAN f v st0 = some (r, st') → Met l yX9_ran (wv yX9_ran cX9_ran 6 (some .int)) ({ frames := 5 * d + 10, cells := gR st' 101 2 - gR st0 101 2, slots := gR st' 101 3 - gR st0 101 3, locals := 139 * d + 200 }) (va_Pc [.ref b0, .ref fa, .long v] (rfU D A b0 cA st0)) (rfQi D A b0 cA r st') (gR st' 101 2 - gR st0 101 2) (gR st' 101 3 - gR st0 101 3) A) {p : Program} {e : Env} {s : State} {m : MethodId} {args : Array Value} {below : List Frame} {meth : Method} {c : Code} (S : CallFix p m c cX9_done 11 s args (wv yX9_done cX9_done 11 (some .int)) RX9) (hr : meth.sig.returnType = some .int) (hlocks : meth.locks = false) (hK : rfK D cA s) (r : Int32) (st' : CwS) (st0 : CwS) (st : CwS) (x1 : Nat) (fx1 : Nat) (hf_fx1 : rfF st x1 fx1) (x3 : Int32) (x4 : Int32) (x6 : Int32) (H : Heap) (locs : List Loc) (ls : Array Slot) (h : j_Mo_done_L175 RAN x1 x3 x4 x6 st = some (r, st')) (hO : rfO D A b0 cA s st H locs) (hl : lv_has ls 11 [(0, .ref b0), (1, .ref fx1), (3, .int x3), (4, .int x4), (6, .int x6)]) (E_st : Ext st0 st) : W p l e ({ frames := 5 * d + 13, cells := gR st' 101 2 - gR st0 101 2, slots := gR st' 101 3 - gR st0 101 3, locals := 139 * d + 284 }) s m args below meth c H locs (gR st 101 2 - gR st0 101 2) (gR st 101 3 - gR st0 101 3) (MQ below (rfQi D A b0 cA r st') args s (gR st' 101 2 - gR st0 101 2) (gR st' 101 3 - gR st0 101 3) A) (F0 m 175 ls []) := by
  obtain ⟨hx, hb, hml, hown, hts⟩ := S
  have hgw := fun (w : Cond) (h : w ∈ gwW) => hts w (List.mem_cons_of_mem _ h)
  have k9 := hgw _ w_021ca238
  have k13 := hgw _ w_eb510d35
  have k23 := hgw _ w_3c9d41c6
  have k61 := hgw _ w_b3eed388
  have k64 := hgw _ w_6e237316
  have k67 := hgw _ w_1c4b90a6
  have k70 := hgw _ w_3b4ec9b7
  have k73 := hgw _ w_f693c208
  have k80 := hgw _ w_4931c96f
  have k97 := hgw _ w_bb1741c6
  have k100 := hgw _ w_36d04f4c
  have k103 := hgw _ w_05e7d7f0
  unfold j_Mo_done_L175 at h
  refine lv_iload_n hx hb dX9_done_175 rfl (lv_at hl 2 rfl) ?_
  refine lv_bipush (v := 15) hx hb dX9_done_176 (by decide) ?_
  refine lv_icmp_lt (tgt := 202) hx hb dX9_done_178 (by decide) (fun c11 => ?_) (fun c11 => ?_)
  · have h := ite_t c11 h
    exact c_Mo_done_L202 hRx hRc ⟨hx, hb, hml, hown, hts⟩ hr hlocks hK r st' st0 st x1 fx1 hf_fx1 x3 x4 x6 _ _ _ h hO (lv_sub hl [0, 1, 2, 3, 4] rfl) (show Ext st0 _ from E_st)
  · have h := ite_f c11 h
    refine lv_iload_n hx hb dX9_done_181 rfl (lv_at hl 2 rfl) ?_
    refine lv_bipush (v := 23) hx hb dX9_done_182 (by decide) ?_
    refine lv_icmp_gt (tgt := 202) hx hb dX9_done_184 (by decide) (fun c61 => ?_) (fun c61 => ?_)
    · have h := ite_t c61 h
      exact c_Mo_done_L202 hRx hRc ⟨hx, hb, hml, hown, hts⟩ hr hlocks hK r st' st0 st x1 fx1 hf_fx1 x3 x4 x6 _ _ _ h hO (lv_sub hl [0, 1, 2, 3, 4] rfl) (show Ext st0 _ from E_st)
    · have h := ite_f c61 h
      refine lv_iload_n hx hb dX9_done_187 rfl (lv_at hl 2 rfl) ?_
      refine lv_bipush (v := 22) hx hb dX9_done_188 (by decide) ?_
      refine lv_icmp_eq (tgt := 202) hx hb dX9_done_190 (by decide) (fun c62 => ?_) (fun c62 => ?_)
      · have h := ite_t c62 h
        exact c_Mo_done_L202 hRx hRc ⟨hx, hb, hml, hown, hts⟩ hr hlocks hK r st' st0 st x1 fx1 hf_fx1 x3 x4 x6 _ _ _ h hO (lv_sub hl [0, 1, 2, 3, 4] rfl) (show Ext st0 _ from E_st)
      · have h := ite_f c62 h
        refine lv_aload_n hx hb dX9_done_193 rfl (lv_at hl 0 rfl) ?_
        refine lv_aload_n hx hb dX9_done_194 rfl (lv_at hl 1 rfl) ?_
        refine lv_iload_n hx hb dX9_done_195 rfl (lv_at hl 2 rfl) ?_
        refine lv_iload hx hb dX9_done_196 (lv_at hl 4 rfl) ?_
        have y_st64 : Ext st st' := by
          obtain ⟨r63, st64, h65, h⟩ := bR_some h
          refine Ext.trans (a := st) (b := st64) (by have t := x_Mo_rowed h65; exact t) ?_
          obtain ⟨-, rfl⟩ := ret2 h; exact (show Ext st64 _ from Ext.refl st64)
        obtain ⟨r63, st64, h65, h⟩ := bR_some h
        have x_st64 : Ext st st64 := by have t := x_Mo_rowed h65; exact t
        have y2_st64 : Ext st64 st' := by
          obtain ⟨-, rfl⟩ := ret2 h; exact (show Ext st64 _ from Ext.refl st64)
        refine rf_calli (va_runV (As := [.ref fx1, .int x3, .int x6]) (rest := []) ⟨hx, hb, hml, hown, hts⟩ (c_Mo_rowed l D A b0 cA st x1 fx1 hf_fx1 x3 x6 r63 st64 h65) (cwV 3 hts (gw_V w_7404d7f8 w_78850d76 w_4de68fc0 w_18f41a94 w_dd4cdae6) rfl rfl rfl (by decide +kernel) ⟨by show 2 + 1 ≤ 5 * d + 13; omega, by show 8 + (9 + 11) + (52) ≤ 139 * d + 284; omega⟩) (rf_preM hK hO) rfl rfl hl.1 rfl (lv_room (Nat.le_of_ble_eq_true rfl)) dX9_done_198 ⟨by have q1 := E_st; have q2 := x_st64; have q3 := y2_st64; unfold Ext at q1 q2 q3; show (gR st 101 2 - gR st0 101 2) + (gR st64 101 2 - gR st 101 2) ≤ gR st' 101 2 - gR st0 101 2; omega, by have q1 := E_st; have q2 := x_st64; have q3 := y2_st64; unfold Ext at q1 q2 q3; show (gR st 101 3 - gR st0 101 3) + (gR st64 101 3 - gR st 101 3) ≤ gR st' 101 3 - gR st0 101 3; omega⟩) hO (fun H locs hO => ?_)
        have hf_fx1 : rfF st64 x1 fx1 := rfF.ext (show rfF st x1 fx1 from hf_fx1) x_st64
        have E_st64 : Ext st0 st64 := E_st.trans x_st64
        refine W.widen (k := gR st64 101 2 - gR st0 101 2) (n := gR st64 101 3 - gR st0 101 3) (by have q1 := E_st; have q2 := x_st64; unfold Ext at q1 q2; omega) (by have q1 := E_st; have q2 := x_st64; unfold Ext at q1 q2; omega) ?_
        obtain ⟨rfl, rfl⟩ := ret2 h; exact rf_iret hx hb hr hlocks hO dX9_done_201
set_option maxHeartbeats 4000000 in
set_option maxRecDepth 100000 in
theorem c_Mo_done (l : Launch) (D : va_G) (A : Nat → Prop) (b0 : Nat) (cA : Nat → ClassId) (RAN : Nat → Int64 → CwS → Option (Int32 × CwS)) (d : Nat) (hRx : ∀ (f : Nat) (v : Int64) (st : CwS) (r : Int32) (st' : CwS), RAN f v st = some (r, st') → Ext st st') (hRc : ∀ (st0 : CwS) (f fa : Nat) (hf : rfF st0 f fa) (v : Int64) (r : Int32) (st' : CwS), RAN f v st0 = some (r, st') → Met l yX9_ran (wv yX9_ran cX9_ran 6 (some .int)) ({ frames := 5 * d + 10, cells := gR st' 101 2 - gR st0 101 2, slots := gR st' 101 3 - gR st0 101 3, locals := 139 * d + 200 }) (va_Pc [.ref b0, .ref fa, .long v] (rfU D A b0 cA st0)) (rfQi D A b0 cA r st') (gR st' 101 2 - gR st0 101 2) (gR st' 101 3 - gR st0 101 3) A) (st0 : CwS) (a1 : Nat) (fa1 : Nat) (hf_fa1 : rfF st0 a1 fa1) (r : Int32) (st' : CwS) (h : j_Mo_done RAN a1 st0 = some (r, st')) : Met l yX9_done (wv yX9_done cX9_done 11 (some .int)) ({ frames := 5 * d + 13, cells := gR st' 101 2 - gR st0 101 2, slots := gR st' 101 3 - gR st0 101 3, locals := 139 * d + 284 }) (va_Pc [.ref b0, .ref fa1] (rfU D A b0 cA st0)) (rfQi D A b0 cA r st') (gR st' 101 2 - gR st0 101 2) (gR st' 101 3 - gR st0 101 3) A := by
  refine Met.ofW (cc := cX9_done) (maxL := 11) (ret := some .int) (by decide) rfl ?_
  intro p e s m args below meth c s₁ B hml hv
  obtain ⟨rfl, hP, hD, hz, hK⟩ := hv
  have hx := B.exec
  have hb := B.bytes
  have hr := B.returns
  have hts := atoms_spec (ws := wv yX9_done cX9_done 11 (some .int)) B.pre
  have hown : s.vm.findClass RX9 = some m.cls := findClass_of_methodNamed B.named
  have hlocks := B.notSynchronized
  have hO : rfO D A b0 cA s st0 s.heap [] := ⟨hP, hD, va_S.rf, hz⟩
  have hl := lv_entry ([.ref b0, .ref fa1]) (n := 11) (Nat.le_of_ble_eq_true rfl)
  rw [lg_entry_eq]
  generalize (lg_sl ([.ref b0, .ref fa1]) ++ List.replicate (11 - (lg_sl ([.ref b0, .ref fa1])).length) Slot.unset).toArray = ls at hl ⊢
  have hl : lv_has ls 11 [(0, .ref b0), (1, .ref fa1)] := hl
  have hgw := fun (w : Cond) (h : w ∈ gwW) => hts w (List.mem_cons_of_mem _ h)
  have k9 := hgw _ w_021ca238
  have k13 := hgw _ w_eb510d35
  have k23 := hgw _ w_3c9d41c6
  have k61 := hgw _ w_b3eed388
  have k64 := hgw _ w_6e237316
  have k67 := hgw _ w_1c4b90a6
  have k70 := hgw _ w_3b4ec9b7
  have k73 := hgw _ w_f693c208
  have k80 := hgw _ w_4931c96f
  have k97 := hgw _ w_bb1741c6
  have k100 := hgw _ w_36d04f4c
  have k103 := hgw _ w_05e7d7f0
  unfold j_Mo_done at h
  have E_st0 := Ext.refl st0
  refine W.widen (k := gR st0 101 2 - gR st0 101 2) (n := gR st0 101 3 - gR st0 101 3) (Nat.zero_le _) (Nat.zero_le _) ?_
  refine lv_aload_n hx hb dX9_done_0 rfl (lv_at hl 1 rfl) ?_
  refine gf_MF_limit hx hb hgw iwMF hown hK hO hf_fa1 k61 dX9_done_1 ?_
  refine lv_if_ne (tgt := 10) hx hb dX9_done_4 (by decide) (fun c1 => ?_) (fun c1 => ?_)
  · have h := ite_f c1 h
    refine lv_aload_n hx hb dX9_done_10 rfl (lv_at hl 1 rfl) ?_
    refine lv_dup hx hb dX9_done_11 rfl ?_
    refine gf_MF_limit hx hb hgw iwMF hown hK hO hf_fa1 k61 dX9_done_12 ?_
    refine lv_iconst (v := 1) hx hb dX9_done_15 (by decide) ?_
    refine lv_isub hx hb dX9_done_16 ?_
    refine pf_MF_limit hx hb hgw iwMF hown hK hO hf_fa1 k61 dX9_done_17 (fun H locs hO => ?_)
    refine lv_aload_n hx hb dX9_done_20 rfl (lv_at hl 0 rfl) ?_
    refine lv_dup hx hb dX9_done_21 rfl ?_
    refine gf_Mo_taken hx hb hgw iwMo hown hK hO k64 dX9_done_22 ?_
    refine lv_iconst (v := 1) hx hb dX9_done_25 (by decide) ?_
    refine lv_iadd hx hb dX9_done_26 ?_
    refine pf_Mo_taken hx hb hgw iwMo hown hK hO k64 dX9_done_27 (fun H locs hO => ?_)
    refine lv_bipush (v := 6) hx hb dX9_done_30 (by decide) ?_
    refine lv_aload_n hx hb dX9_done_32 rfl (lv_at hl 1 rfl) ?_
    refine gf_MF_contract hx hb hgw iwMF hown hK hO hf_fa1 k67 dX9_done_33 ?_
    refine lv_imul hx hb dX9_done_36 ?_
    refine lv_aload_n hx hb dX9_done_37 rfl (lv_at hl 1 rfl) ?_
    refine gf_MF_behaviour hx hb hgw iwMF hown hK hO hf_fa1 k70 dX9_done_38 ?_
    refine lv_iadd hx hb dX9_done_41 ?_
    refine lv_istore_n (lv' := [(2, .int ((((6 : Int32)) * (gI (sI (sI st0 17 a1 0 ((gI st0 17 a1 0) - ((1 : Int32)))) 8 0 0 ((gI (sI st0 17 a1 0 ((gI st0 17 a1 0) - ((1 : Int32)))) 8 0 0) + ((1 : Int32)))) 14 a1 0)) + (gI (sI (sI st0 17 a1 0 ((gI st0 17 a1 0) - ((1 : Int32)))) 8 0 0 ((gI (sI st0 17 a1 0 ((gI st0 17 a1 0) - ((1 : Int32)))) 8 0 0) + ((1 : Int32)))) 16 a1 0))), (0, .ref b0), (1, .ref fa1)]) hx hb dX9_done_42 rfl hl (by decide) rfl (fun ls hl => ?_)
    refine lv_aload_n hx hb dX9_done_43 rfl (lv_at hl 1 rfl) ?_
    refine gf_Mo_codes hx hb hgw iwMo hown hK hO k9 dX9_done_44 ?_
    refine lv_bipush (v := 24) hx hb dX9_done_47 (by decide) ?_
    refine lv_iload_n hx hb dX9_done_49 rfl (lv_at hl 0 rfl) ?_
    refine lv_imul hx hb dX9_done_50 ?_
    refine lv_aload_n hx hb dX9_done_51 rfl (lv_at hl 2 rfl) ?_
    refine gf_MF_at hx hb hgw iwMF hown hK hO hf_fa1 k73 dX9_done_52 ?_
    refine lv_iadd hx hb dX9_done_55 ?_
    obtain ⟨hc2, h⟩ := ck_some h
    refine al_MCodes hx hb hK hO hc2 dX9_done_56 ?_
    refine lv_istore_n (lv' := [(3, .int (gI (sI (sI st0 17 a1 0 ((gI st0 17 a1 0) - ((1 : Int32)))) 8 0 0 ((gI (sI st0 17 a1 0 ((gI st0 17 a1 0) - ((1 : Int32)))) 8 0 0) + ((1 : Int32)))) 0 0 (((((24 : Int32)) * ((((6 : Int32)) * (gI (sI (sI st0 17 a1 0 ((gI st0 17 a1 0) - ((1 : Int32)))) 8 0 0 ((gI (sI st0 17 a1 0 ((gI st0 17 a1 0) - ((1 : Int32)))) 8 0 0) + ((1 : Int32)))) 14 a1 0)) + (gI (sI (sI st0 17 a1 0 ((gI st0 17 a1 0) - ((1 : Int32)))) 8 0 0 ((gI (sI st0 17 a1 0 ((gI st0 17 a1 0) - ((1 : Int32)))) 8 0 0) + ((1 : Int32)))) 16 a1 0))) + (gI (sI (sI st0 17 a1 0 ((gI st0 17 a1 0) - ((1 : Int32)))) 8 0 0 ((gI (sI st0 17 a1 0 ((gI st0 17 a1 0) - ((1 : Int32)))) 8 0 0) + ((1 : Int32)))) 20 a1 0)).toNatClampNeg))), (2, .int ((((6 : Int32)) * (gI (sI (sI st0 17 a1 0 ((gI st0 17 a1 0) - ((1 : Int32)))) 8 0 0 ((gI (sI st0 17 a1 0 ((gI st0 17 a1 0) - ((1 : Int32)))) 8 0 0) + ((1 : Int32)))) 14 a1 0)) + (gI (sI (sI st0 17 a1 0 ((gI st0 17 a1 0) - ((1 : Int32)))) 8 0 0 ((gI (sI st0 17 a1 0 ((gI st0 17 a1 0) - ((1 : Int32)))) 8 0 0) + ((1 : Int32)))) 16 a1 0))), (0, .ref b0), (1, .ref fa1)]) hx hb dX9_done_57 rfl hl (by decide) rfl (fun ls hl => ?_)
    refine lv_aload_n hx hb dX9_done_58 rfl (lv_at hl 2 rfl) ?_
    refine gf_Mo_numbers hx hb hgw iwMo hown hK hO k13 dX9_done_59 ?_
    refine lv_bipush (v := 24) hx hb dX9_done_62 (by decide) ?_
    refine lv_iload_n hx hb dX9_done_64 rfl (lv_at hl 1 rfl) ?_
    refine lv_imul hx hb dX9_done_65 ?_
    refine lv_aload_n hx hb dX9_done_66 rfl (lv_at hl 3 rfl) ?_
    refine gf_MF_at hx hb hgw iwMF hown hK hO hf_fa1 k73 dX9_done_67 ?_
    refine lv_iadd hx hb dX9_done_70 ?_
    obtain ⟨hc3, h⟩ := ck_some h
    refine al_MNums hx hb hK hO hc3 dX9_done_71 ?_
    refine lv_istore (lv' := [(4, .int (gI (sI (sI st0 17 a1 0 ((gI st0 17 a1 0) - ((1 : Int32)))) 8 0 0 ((gI (sI st0 17 a1 0 ((gI st0 17 a1 0) - ((1 : Int32)))) 8 0 0) + ((1 : Int32)))) 1 0 (((((24 : Int32)) * ((((6 : Int32)) * (gI (sI (sI st0 17 a1 0 ((gI st0 17 a1 0) - ((1 : Int32)))) 8 0 0 ((gI (sI st0 17 a1 0 ((gI st0 17 a1 0) - ((1 : Int32)))) 8 0 0) + ((1 : Int32)))) 14 a1 0)) + (gI (sI (sI st0 17 a1 0 ((gI st0 17 a1 0) - ((1 : Int32)))) 8 0 0 ((gI (sI st0 17 a1 0 ((gI st0 17 a1 0) - ((1 : Int32)))) 8 0 0) + ((1 : Int32)))) 16 a1 0))) + (gI (sI (sI st0 17 a1 0 ((gI st0 17 a1 0) - ((1 : Int32)))) 8 0 0 ((gI (sI st0 17 a1 0 ((gI st0 17 a1 0) - ((1 : Int32)))) 8 0 0) + ((1 : Int32)))) 20 a1 0)).toNatClampNeg))), (3, .int (gI (sI (sI st0 17 a1 0 ((gI st0 17 a1 0) - ((1 : Int32)))) 8 0 0 ((gI (sI st0 17 a1 0 ((gI st0 17 a1 0) - ((1 : Int32)))) 8 0 0) + ((1 : Int32)))) 0 0 (((((24 : Int32)) * ((((6 : Int32)) * (gI (sI (sI st0 17 a1 0 ((gI st0 17 a1 0) - ((1 : Int32)))) 8 0 0 ((gI (sI st0 17 a1 0 ((gI st0 17 a1 0) - ((1 : Int32)))) 8 0 0) + ((1 : Int32)))) 14 a1 0)) + (gI (sI (sI st0 17 a1 0 ((gI st0 17 a1 0) - ((1 : Int32)))) 8 0 0 ((gI (sI st0 17 a1 0 ((gI st0 17 a1 0) - ((1 : Int32)))) 8 0 0) + ((1 : Int32)))) 16 a1 0))) + (gI (sI (sI st0 17 a1 0 ((gI st0 17 a1 0) - ((1 : Int32)))) 8 0 0 ((gI (sI st0 17 a1 0 ((gI st0 17 a1 0) - ((1 : Int32)))) 8 0 0) + ((1 : Int32)))) 20 a1 0)).toNatClampNeg))), (2, .int ((((6 : Int32)) * (gI (sI (sI st0 17 a1 0 ((gI st0 17 a1 0) - ((1 : Int32)))) 8 0 0 ((gI (sI st0 17 a1 0 ((gI st0 17 a1 0) - ((1 : Int32)))) 8 0 0) + ((1 : Int32)))) 14 a1 0)) + (gI (sI (sI st0 17 a1 0 ((gI st0 17 a1 0) - ((1 : Int32)))) 8 0 0 ((gI (sI st0 17 a1 0 ((gI st0 17 a1 0) - ((1 : Int32)))) 8 0 0) + ((1 : Int32)))) 16 a1 0))), (0, .ref b0), (1, .ref fa1)]) hx hb dX9_done_72 hl (by decide) rfl (fun ls hl => ?_)
    refine lv_aload_n hx hb dX9_done_74 rfl (lv_at hl 4 rfl) ?_
    refine lv_dup hx hb dX9_done_75 rfl ?_
    refine gf_MF_at hx hb hgw iwMF hown hK hO hf_fa1 k73 dX9_done_76 ?_
    refine lv_iconst (v := 1) hx hb dX9_done_79 (by decide) ?_
    refine lv_iadd hx hb dX9_done_80 ?_
    refine pf_MF_at hx hb hgw iwMF hown hK hO hf_fa1 k73 dX9_done_81 (fun H locs hO => ?_)
    refine lv_iload_n hx hb dX9_done_84 rfl (lv_at hl 1 rfl) ?_
    have y_st5 : Ext st0 st' := by
      obtain ⟨r4, st5, h6, h⟩ := bR_some h
      refine Ext.trans (a := st0) (b := st5) (by have t := x_Mo_needs h6; exact t) ?_
      by_cases c7 : ((0 : Int32)) ≤ r4
      · have h := ite_t c7 h
        by_cases c8 : (gI st5 18 a1 0) < (r4 / ((10 : Int32)))
        · have h := ite_t c8 h
          obtain ⟨-, rfl⟩ := ret2 h; exact (show Ext st5 _ from Ext.refl st5)
        · have h := ite_f c8 h
          by_cases c9 : (((gI st5 18 a1 0) - (r4 / ((10 : Int32)))) + (r4 - r4 / ((10 : Int32)) * ((10 : Int32)))) ≤ ((12 : Int32))
          · have h := ite_t c9 h
            by_cases c10 : (gI (sI (sI st0 17 a1 0 ((gI st0 17 a1 0) - ((1 : Int32)))) 8 0 0 ((gI (sI st0 17 a1 0 ((gI st0 17 a1 0) - ((1 : Int32)))) 8 0 0) + ((1 : Int32)))) 0 0 (((((24 : Int32)) * ((((6 : Int32)) * (gI (sI (sI st0 17 a1 0 ((gI st0 17 a1 0) - ((1 : Int32)))) 8 0 0 ((gI (sI st0 17 a1 0 ((gI st0 17 a1 0) - ((1 : Int32)))) 8 0 0) + ((1 : Int32)))) 14 a1 0)) + (gI (sI (sI st0 17 a1 0 ((gI st0 17 a1 0) - ((1 : Int32)))) 8 0 0 ((gI (sI st0 17 a1 0 ((gI st0 17 a1 0) - ((1 : Int32)))) 8 0 0) + ((1 : Int32)))) 16 a1 0))) + (gI (sI (sI st0 17 a1 0 ((gI st0 17 a1 0) - ((1 : Int32)))) 8 0 0 ((gI (sI st0 17 a1 0 ((gI st0 17 a1 0) - ((1 : Int32)))) 8 0 0) + ((1 : Int32)))) 20 a1 0)).toNatClampNeg)) < ((6 : Int32))
            · have h := ite_t c10 h
              have t := x_Mo_done_L175 hRx h; exact (show Ext st5 _ from t)
            · have h := ite_f c10 h
              by_cases c66 : ((12 : Int32)) < (gI (sI (sI st0 17 a1 0 ((gI st0 17 a1 0) - ((1 : Int32)))) 8 0 0 ((gI (sI st0 17 a1 0 ((gI st0 17 a1 0) - ((1 : Int32)))) 8 0 0) + ((1 : Int32)))) 0 0 (((((24 : Int32)) * ((((6 : Int32)) * (gI (sI (sI st0 17 a1 0 ((gI st0 17 a1 0) - ((1 : Int32)))) 8 0 0 ((gI (sI st0 17 a1 0 ((gI st0 17 a1 0) - ((1 : Int32)))) 8 0 0) + ((1 : Int32)))) 14 a1 0)) + (gI (sI (sI st0 17 a1 0 ((gI st0 17 a1 0) - ((1 : Int32)))) 8 0 0 ((gI (sI st0 17 a1 0 ((gI st0 17 a1 0) - ((1 : Int32)))) 8 0 0) + ((1 : Int32)))) 16 a1 0))) + (gI (sI (sI st0 17 a1 0 ((gI st0 17 a1 0) - ((1 : Int32)))) 8 0 0 ((gI (sI st0 17 a1 0 ((gI st0 17 a1 0) - ((1 : Int32)))) 8 0 0) + ((1 : Int32)))) 20 a1 0)).toNatClampNeg))
              · have h := ite_t c66 h
                have t := x_Mo_done_L175 hRx h; exact (show Ext st5 _ from t)
              · have h := ite_f c66 h
                obtain ⟨r67, st68, h69, h⟩ := bR_some h
                refine Ext.trans (a := st5) (b := st68) (by have t := x_Mo_reckoned h69; exact t) ?_
                obtain ⟨-, rfl⟩ := ret2 h; exact (show Ext st68 _ from Ext.refl st68)
          · have h := ite_f c9 h
            obtain ⟨-, rfl⟩ := ret2 h; exact (show Ext st5 _ from Ext.refl st5)
      · have h := ite_f c7 h
        obtain ⟨-, rfl⟩ := ret2 h; exact (show Ext st5 _ from Ext.refl st5)
    obtain ⟨r4, st5, h6, h⟩ := bR_some h
    have x_st5 : Ext st0 st5 := by have t := x_Mo_needs h6; exact t
    refine rf_calli (va_runS (As := [.int (gI (sI (sI st0 17 a1 0 ((gI st0 17 a1 0) - ((1 : Int32)))) 8 0 0 ((gI (sI st0 17 a1 0 ((gI st0 17 a1 0) - ((1 : Int32)))) 8 0 0) + ((1 : Int32)))) 0 0 (((((24 : Int32)) * ((((6 : Int32)) * (gI (sI (sI st0 17 a1 0 ((gI st0 17 a1 0) - ((1 : Int32)))) 8 0 0 ((gI (sI st0 17 a1 0 ((gI st0 17 a1 0) - ((1 : Int32)))) 8 0 0) + ((1 : Int32)))) 14 a1 0)) + (gI (sI (sI st0 17 a1 0 ((gI st0 17 a1 0) - ((1 : Int32)))) 8 0 0 ((gI (sI st0 17 a1 0 ((gI st0 17 a1 0) - ((1 : Int32)))) 8 0 0) + ((1 : Int32)))) 16 a1 0))) + (gI (sI (sI st0 17 a1 0 ((gI st0 17 a1 0) - ((1 : Int32)))) 8 0 0 ((gI (sI st0 17 a1 0 ((gI st0 17 a1 0) - ((1 : Int32)))) 8 0 0) + ((1 : Int32)))) 20 a1 0)).toNatClampNeg))]) (rest := []) ⟨hx, hb, hml, hown, hts⟩ (c_Mo_needs l D A b0 cA (sI (sI (sI st0 17 a1 0 ((gI st0 17 a1 0) - ((1 : Int32)))) 8 0 0 ((gI (sI st0 17 a1 0 ((gI st0 17 a1 0) - ((1 : Int32)))) 8 0 0) + ((1 : Int32)))) 20 a1 0 ((gI (sI (sI st0 17 a1 0 ((gI st0 17 a1 0) - ((1 : Int32)))) 8 0 0 ((gI (sI st0 17 a1 0 ((gI st0 17 a1 0) - ((1 : Int32)))) 8 0 0) + ((1 : Int32)))) 20 a1 0) + ((1 : Int32)))) (gI (sI (sI st0 17 a1 0 ((gI st0 17 a1 0) - ((1 : Int32)))) 8 0 0 ((gI (sI st0 17 a1 0 ((gI st0 17 a1 0) - ((1 : Int32)))) 8 0 0) + ((1 : Int32)))) 0 0 (((((24 : Int32)) * ((((6 : Int32)) * (gI (sI (sI st0 17 a1 0 ((gI st0 17 a1 0) - ((1 : Int32)))) 8 0 0 ((gI (sI st0 17 a1 0 ((gI st0 17 a1 0) - ((1 : Int32)))) 8 0 0) + ((1 : Int32)))) 14 a1 0)) + (gI (sI (sI st0 17 a1 0 ((gI st0 17 a1 0) - ((1 : Int32)))) 8 0 0 ((gI (sI st0 17 a1 0 ((gI st0 17 a1 0) - ((1 : Int32)))) 8 0 0) + ((1 : Int32)))) 16 a1 0))) + (gI (sI (sI st0 17 a1 0 ((gI st0 17 a1 0) - ((1 : Int32)))) 8 0 0 ((gI (sI st0 17 a1 0 ((gI st0 17 a1 0) - ((1 : Int32)))) 8 0 0) + ((1 : Int32)))) 20 a1 0)).toNatClampNeg)) r4 st5 h6) (va_cwS 1 hts (gw_S w_18884950 w_2e72e8b0 w_18f41a94 w_a0f9cc3a) rfl rfl rfl (by decide +kernel) ⟨by show 0 + 1 ≤ 5 * d + 13; omega, by show 8 + (1 + 11) + (0) ≤ 139 * d + 284; omega⟩) (rf_preS hK hO) rfl rfl hl.1 rfl (lv_room (Nat.le_of_ble_eq_true rfl)) dX9_done_85 ⟨by have q1 := E_st0; have q2 := y_st5; unfold Ext at q1 q2; show (gR st0 101 2 - gR st0 101 2) + 0 ≤ gR st' 101 2 - gR st0 101 2; omega, by have q1 := E_st0; have q2 := y_st5; unfold Ext at q1 q2; show (gR st0 101 3 - gR st0 101 3) + 0 ≤ gR st' 101 3 - gR st0 101 3; omega⟩) hO (fun H locs hO => ?_)
    have hf_fa1 : rfF st5 a1 fa1 := rfF.ext (show rfF st0 a1 fa1 from hf_fa1) x_st5
    have E_st5 : Ext st0 st5 := E_st0.trans x_st5
    refine W.widen (k := gR st5 101 2 - gR st0 101 2) (n := gR st5 101 3 - gR st0 101 3) (by have q1 := E_st0; have q2 := x_st5; unfold Ext at q1 q2; omega) (by have q1 := E_st0; have q2 := x_st5; unfold Ext at q1 q2; omega) ?_
    refine lv_istore (lv' := [(5, .int r4), (4, .int (gI (sI (sI st0 17 a1 0 ((gI st0 17 a1 0) - ((1 : Int32)))) 8 0 0 ((gI (sI st0 17 a1 0 ((gI st0 17 a1 0) - ((1 : Int32)))) 8 0 0) + ((1 : Int32)))) 1 0 (((((24 : Int32)) * ((((6 : Int32)) * (gI (sI (sI st0 17 a1 0 ((gI st0 17 a1 0) - ((1 : Int32)))) 8 0 0 ((gI (sI st0 17 a1 0 ((gI st0 17 a1 0) - ((1 : Int32)))) 8 0 0) + ((1 : Int32)))) 14 a1 0)) + (gI (sI (sI st0 17 a1 0 ((gI st0 17 a1 0) - ((1 : Int32)))) 8 0 0 ((gI (sI st0 17 a1 0 ((gI st0 17 a1 0) - ((1 : Int32)))) 8 0 0) + ((1 : Int32)))) 16 a1 0))) + (gI (sI (sI st0 17 a1 0 ((gI st0 17 a1 0) - ((1 : Int32)))) 8 0 0 ((gI (sI st0 17 a1 0 ((gI st0 17 a1 0) - ((1 : Int32)))) 8 0 0) + ((1 : Int32)))) 20 a1 0)).toNatClampNeg))), (3, .int (gI (sI (sI st0 17 a1 0 ((gI st0 17 a1 0) - ((1 : Int32)))) 8 0 0 ((gI (sI st0 17 a1 0 ((gI st0 17 a1 0) - ((1 : Int32)))) 8 0 0) + ((1 : Int32)))) 0 0 (((((24 : Int32)) * ((((6 : Int32)) * (gI (sI (sI st0 17 a1 0 ((gI st0 17 a1 0) - ((1 : Int32)))) 8 0 0 ((gI (sI st0 17 a1 0 ((gI st0 17 a1 0) - ((1 : Int32)))) 8 0 0) + ((1 : Int32)))) 14 a1 0)) + (gI (sI (sI st0 17 a1 0 ((gI st0 17 a1 0) - ((1 : Int32)))) 8 0 0 ((gI (sI st0 17 a1 0 ((gI st0 17 a1 0) - ((1 : Int32)))) 8 0 0) + ((1 : Int32)))) 16 a1 0))) + (gI (sI (sI st0 17 a1 0 ((gI st0 17 a1 0) - ((1 : Int32)))) 8 0 0 ((gI (sI st0 17 a1 0 ((gI st0 17 a1 0) - ((1 : Int32)))) 8 0 0) + ((1 : Int32)))) 20 a1 0)).toNatClampNeg))), (2, .int ((((6 : Int32)) * (gI (sI (sI st0 17 a1 0 ((gI st0 17 a1 0) - ((1 : Int32)))) 8 0 0 ((gI (sI st0 17 a1 0 ((gI st0 17 a1 0) - ((1 : Int32)))) 8 0 0) + ((1 : Int32)))) 14 a1 0)) + (gI (sI (sI st0 17 a1 0 ((gI st0 17 a1 0) - ((1 : Int32)))) 8 0 0 ((gI (sI st0 17 a1 0 ((gI st0 17 a1 0) - ((1 : Int32)))) 8 0 0) + ((1 : Int32)))) 16 a1 0))), (0, .ref b0), (1, .ref fa1)]) hx hb dX9_done_88 hl (by decide) rfl (fun ls hl => ?_)
    refine lv_iload hx hb dX9_done_90 (lv_at hl 0 rfl) ?_
    refine lv_if_ge (tgt := 98) hx hb dX9_done_92 (by decide) (fun c7 => ?_) (fun c7 => ?_)
    · have h := ite_t c7 h
      refine lv_aload_n hx hb dX9_done_98 rfl (lv_at hl 5 rfl) ?_
      refine gf_MF_high hx hb hgw iwMF hown hK hO hf_fa1 k80 dX9_done_99 ?_
      refine lv_iload hx hb dX9_done_102 (lv_at hl 0 rfl) ?_
      refine lv_bipush (v := 10) hx hb dX9_done_104 (by decide) ?_
      refine lv_idiv hx hb dX9_done_106 (by decide) ?_
      refine lv_icmp_lt (tgt := 131) hx hb dX9_done_107 (by decide) (fun c8 => ?_) (fun c8 => ?_)
      · have h := ite_t c8 h
        refine lv_bipush (v := 11) hx hb dX9_done_131 (by decide) ?_
        obtain ⟨rfl, rfl⟩ := ret2 h; exact rf_iret hx hb hr hlocks hO dX9_done_133
      · have h := ite_f c8 h
        refine lv_aload_n hx hb dX9_done_110 rfl (lv_at hl 5 rfl) ?_
        refine gf_MF_high hx hb hgw iwMF hown hK hO hf_fa1 k80 dX9_done_111 ?_
        refine lv_iload hx hb dX9_done_114 (lv_at hl 0 rfl) ?_
        refine lv_bipush (v := 10) hx hb dX9_done_116 (by decide) ?_
        refine lv_idiv hx hb dX9_done_118 (by decide) ?_
        refine lv_isub hx hb dX9_done_119 ?_
        refine lv_iload hx hb dX9_done_120 (lv_at hl 0 rfl) ?_
        refine lv_bipush (v := 10) hx hb dX9_done_122 (by decide) ?_
        refine lv_irem hx hb dX9_done_124 (by decide) ?_
        refine lv_iadd hx hb dX9_done_125 ?_
        refine lv_bipush (v := 12) hx hb dX9_done_126 (by decide) ?_
        refine lv_icmp_le (tgt := 134) hx hb dX9_done_128 (by decide) (fun c9 => ?_) (fun c9 => ?_)
        · have h := ite_t c9 h
          refine lv_aload_n hx hb dX9_done_134 rfl (lv_at hl 5 rfl) ?_
          refine lv_dup hx hb dX9_done_135 rfl ?_
          refine gf_MF_high hx hb hgw iwMF hown hK hO hf_fa1 k80 dX9_done_136 ?_
          refine lv_iload hx hb dX9_done_139 (lv_at hl 0 rfl) ?_
          refine lv_bipush (v := 10) hx hb dX9_done_141 (by decide) ?_
          refine lv_idiv hx hb dX9_done_143 (by decide) ?_
          refine lv_isub hx hb dX9_done_144 ?_
          refine pf_MF_high hx hb hgw iwMF hown hK hO hf_fa1 k80 dX9_done_145 (fun H locs hO => ?_)
          refine lv_aload_n hx hb dX9_done_148 rfl (lv_at hl 5 rfl) ?_
          refine gf_MF_high hx hb hgw iwMF hown hK hO hf_fa1 k80 dX9_done_149 ?_
          refine lv_istore (lv' := [(6, .int (gI (sI st5 18 a1 0 ((gI st5 18 a1 0) - (r4 / ((10 : Int32))))) 18 a1 0)), (5, .int r4), (4, .int (gI (sI (sI st0 17 a1 0 ((gI st0 17 a1 0) - ((1 : Int32)))) 8 0 0 ((gI (sI st0 17 a1 0 ((gI st0 17 a1 0) - ((1 : Int32)))) 8 0 0) + ((1 : Int32)))) 1 0 (((((24 : Int32)) * ((((6 : Int32)) * (gI (sI (sI st0 17 a1 0 ((gI st0 17 a1 0) - ((1 : Int32)))) 8 0 0 ((gI (sI st0 17 a1 0 ((gI st0 17 a1 0) - ((1 : Int32)))) 8 0 0) + ((1 : Int32)))) 14 a1 0)) + (gI (sI (sI st0 17 a1 0 ((gI st0 17 a1 0) - ((1 : Int32)))) 8 0 0 ((gI (sI st0 17 a1 0 ((gI st0 17 a1 0) - ((1 : Int32)))) 8 0 0) + ((1 : Int32)))) 16 a1 0))) + (gI (sI (sI st0 17 a1 0 ((gI st0 17 a1 0) - ((1 : Int32)))) 8 0 0 ((gI (sI st0 17 a1 0 ((gI st0 17 a1 0) - ((1 : Int32)))) 8 0 0) + ((1 : Int32)))) 20 a1 0)).toNatClampNeg))), (3, .int (gI (sI (sI st0 17 a1 0 ((gI st0 17 a1 0) - ((1 : Int32)))) 8 0 0 ((gI (sI st0 17 a1 0 ((gI st0 17 a1 0) - ((1 : Int32)))) 8 0 0) + ((1 : Int32)))) 0 0 (((((24 : Int32)) * ((((6 : Int32)) * (gI (sI (sI st0 17 a1 0 ((gI st0 17 a1 0) - ((1 : Int32)))) 8 0 0 ((gI (sI st0 17 a1 0 ((gI st0 17 a1 0) - ((1 : Int32)))) 8 0 0) + ((1 : Int32)))) 14 a1 0)) + (gI (sI (sI st0 17 a1 0 ((gI st0 17 a1 0) - ((1 : Int32)))) 8 0 0 ((gI (sI st0 17 a1 0 ((gI st0 17 a1 0) - ((1 : Int32)))) 8 0 0) + ((1 : Int32)))) 16 a1 0))) + (gI (sI (sI st0 17 a1 0 ((gI st0 17 a1 0) - ((1 : Int32)))) 8 0 0 ((gI (sI st0 17 a1 0 ((gI st0 17 a1 0) - ((1 : Int32)))) 8 0 0) + ((1 : Int32)))) 20 a1 0)).toNatClampNeg))), (2, .int ((((6 : Int32)) * (gI (sI (sI st0 17 a1 0 ((gI st0 17 a1 0) - ((1 : Int32)))) 8 0 0 ((gI (sI st0 17 a1 0 ((gI st0 17 a1 0) - ((1 : Int32)))) 8 0 0) + ((1 : Int32)))) 14 a1 0)) + (gI (sI (sI st0 17 a1 0 ((gI st0 17 a1 0) - ((1 : Int32)))) 8 0 0 ((gI (sI st0 17 a1 0 ((gI st0 17 a1 0) - ((1 : Int32)))) 8 0 0) + ((1 : Int32)))) 16 a1 0))), (0, .ref b0), (1, .ref fa1)]) hx hb dX9_done_152 hl (by decide) rfl (fun ls hl => ?_)
          refine lv_iload_n hx hb dX9_done_154 rfl (lv_at hl 3 rfl) ?_
          refine lv_bipush (v := 6) hx hb dX9_done_155 (by decide) ?_
          refine lv_icmp_lt (tgt := 175) hx hb dX9_done_157 (by decide) (fun c10 => ?_) (fun c10 => ?_)
          · have h := ite_t c10 h
            exact c_Mo_done_L175 hRx hRc ⟨hx, hb, hml, hown, hts⟩ hr hlocks hK r st' st0 (sI st5 18 a1 0 ((gI st5 18 a1 0) - (r4 / ((10 : Int32))))) a1 fa1 hf_fa1 (gI (sI (sI st0 17 a1 0 ((gI st0 17 a1 0) - ((1 : Int32)))) 8 0 0 ((gI (sI st0 17 a1 0 ((gI st0 17 a1 0) - ((1 : Int32)))) 8 0 0) + ((1 : Int32)))) 0 0 (((((24 : Int32)) * ((((6 : Int32)) * (gI (sI (sI st0 17 a1 0 ((gI st0 17 a1 0) - ((1 : Int32)))) 8 0 0 ((gI (sI st0 17 a1 0 ((gI st0 17 a1 0) - ((1 : Int32)))) 8 0 0) + ((1 : Int32)))) 14 a1 0)) + (gI (sI (sI st0 17 a1 0 ((gI st0 17 a1 0) - ((1 : Int32)))) 8 0 0 ((gI (sI st0 17 a1 0 ((gI st0 17 a1 0) - ((1 : Int32)))) 8 0 0) + ((1 : Int32)))) 16 a1 0))) + (gI (sI (sI st0 17 a1 0 ((gI st0 17 a1 0) - ((1 : Int32)))) 8 0 0 ((gI (sI st0 17 a1 0 ((gI st0 17 a1 0) - ((1 : Int32)))) 8 0 0) + ((1 : Int32)))) 20 a1 0)).toNatClampNeg)) (gI (sI (sI st0 17 a1 0 ((gI st0 17 a1 0) - ((1 : Int32)))) 8 0 0 ((gI (sI st0 17 a1 0 ((gI st0 17 a1 0) - ((1 : Int32)))) 8 0 0) + ((1 : Int32)))) 1 0 (((((24 : Int32)) * ((((6 : Int32)) * (gI (sI (sI st0 17 a1 0 ((gI st0 17 a1 0) - ((1 : Int32)))) 8 0 0 ((gI (sI st0 17 a1 0 ((gI st0 17 a1 0) - ((1 : Int32)))) 8 0 0) + ((1 : Int32)))) 14 a1 0)) + (gI (sI (sI st0 17 a1 0 ((gI st0 17 a1 0) - ((1 : Int32)))) 8 0 0 ((gI (sI st0 17 a1 0 ((gI st0 17 a1 0) - ((1 : Int32)))) 8 0 0) + ((1 : Int32)))) 16 a1 0))) + (gI (sI (sI st0 17 a1 0 ((gI st0 17 a1 0) - ((1 : Int32)))) 8 0 0 ((gI (sI st0 17 a1 0 ((gI st0 17 a1 0) - ((1 : Int32)))) 8 0 0) + ((1 : Int32)))) 20 a1 0)).toNatClampNeg)) (gI (sI st5 18 a1 0 ((gI st5 18 a1 0) - (r4 / ((10 : Int32))))) 18 a1 0) _ _ _ h hO (lv_sub hl [5, 6, 3, 2, 0] rfl) (show Ext st0 _ from E_st5)
          · have h := ite_f c10 h
            refine lv_iload_n hx hb dX9_done_160 rfl (lv_at hl 3 rfl) ?_
            refine lv_bipush (v := 12) hx hb dX9_done_161 (by decide) ?_
            refine lv_icmp_gt (tgt := 175) hx hb dX9_done_163 (by decide) (fun c66 => ?_) (fun c66 => ?_)
            · have h := ite_t c66 h
              exact c_Mo_done_L175 hRx hRc ⟨hx, hb, hml, hown, hts⟩ hr hlocks hK r st' st0 (sI st5 18 a1 0 ((gI st5 18 a1 0) - (r4 / ((10 : Int32))))) a1 fa1 hf_fa1 (gI (sI (sI st0 17 a1 0 ((gI st0 17 a1 0) - ((1 : Int32)))) 8 0 0 ((gI (sI st0 17 a1 0 ((gI st0 17 a1 0) - ((1 : Int32)))) 8 0 0) + ((1 : Int32)))) 0 0 (((((24 : Int32)) * ((((6 : Int32)) * (gI (sI (sI st0 17 a1 0 ((gI st0 17 a1 0) - ((1 : Int32)))) 8 0 0 ((gI (sI st0 17 a1 0 ((gI st0 17 a1 0) - ((1 : Int32)))) 8 0 0) + ((1 : Int32)))) 14 a1 0)) + (gI (sI (sI st0 17 a1 0 ((gI st0 17 a1 0) - ((1 : Int32)))) 8 0 0 ((gI (sI st0 17 a1 0 ((gI st0 17 a1 0) - ((1 : Int32)))) 8 0 0) + ((1 : Int32)))) 16 a1 0))) + (gI (sI (sI st0 17 a1 0 ((gI st0 17 a1 0) - ((1 : Int32)))) 8 0 0 ((gI (sI st0 17 a1 0 ((gI st0 17 a1 0) - ((1 : Int32)))) 8 0 0) + ((1 : Int32)))) 20 a1 0)).toNatClampNeg)) (gI (sI (sI st0 17 a1 0 ((gI st0 17 a1 0) - ((1 : Int32)))) 8 0 0 ((gI (sI st0 17 a1 0 ((gI st0 17 a1 0) - ((1 : Int32)))) 8 0 0) + ((1 : Int32)))) 1 0 (((((24 : Int32)) * ((((6 : Int32)) * (gI (sI (sI st0 17 a1 0 ((gI st0 17 a1 0) - ((1 : Int32)))) 8 0 0 ((gI (sI st0 17 a1 0 ((gI st0 17 a1 0) - ((1 : Int32)))) 8 0 0) + ((1 : Int32)))) 14 a1 0)) + (gI (sI (sI st0 17 a1 0 ((gI st0 17 a1 0) - ((1 : Int32)))) 8 0 0 ((gI (sI st0 17 a1 0 ((gI st0 17 a1 0) - ((1 : Int32)))) 8 0 0) + ((1 : Int32)))) 16 a1 0))) + (gI (sI (sI st0 17 a1 0 ((gI st0 17 a1 0) - ((1 : Int32)))) 8 0 0 ((gI (sI st0 17 a1 0 ((gI st0 17 a1 0) - ((1 : Int32)))) 8 0 0) + ((1 : Int32)))) 20 a1 0)).toNatClampNeg)) (gI (sI st5 18 a1 0 ((gI st5 18 a1 0) - (r4 / ((10 : Int32))))) 18 a1 0) _ _ _ h hO (lv_sub hl [5, 6, 3, 2, 0] rfl) (show Ext st0 _ from E_st5)
            · have h := ite_f c66 h
              refine lv_aload_n hx hb dX9_done_166 rfl (lv_at hl 5 rfl) ?_
              refine lv_aload_n hx hb dX9_done_167 rfl (lv_at hl 6 rfl) ?_
              refine lv_iload_n hx hb dX9_done_168 rfl (lv_at hl 3 rfl) ?_
              refine lv_iload hx hb dX9_done_169 (lv_at hl 0 rfl) ?_
              have y_st68 : Ext st5 st' := by
                obtain ⟨r67, st68, h69, h⟩ := bR_some h
                refine Ext.trans (a := st5) (b := st68) (by have t := x_Mo_reckoned h69; exact t) ?_
                obtain ⟨-, rfl⟩ := ret2 h; exact (show Ext st68 _ from Ext.refl st68)
              obtain ⟨r67, st68, h69, h⟩ := bR_some h
              have x_st68 : Ext st5 st68 := by have t := x_Mo_reckoned h69; exact t
              refine rf_calli (va_runV (As := [.ref fa1, .int (gI (sI (sI st0 17 a1 0 ((gI st0 17 a1 0) - ((1 : Int32)))) 8 0 0 ((gI (sI st0 17 a1 0 ((gI st0 17 a1 0) - ((1 : Int32)))) 8 0 0) + ((1 : Int32)))) 0 0 (((((24 : Int32)) * ((((6 : Int32)) * (gI (sI (sI st0 17 a1 0 ((gI st0 17 a1 0) - ((1 : Int32)))) 8 0 0 ((gI (sI st0 17 a1 0 ((gI st0 17 a1 0) - ((1 : Int32)))) 8 0 0) + ((1 : Int32)))) 14 a1 0)) + (gI (sI (sI st0 17 a1 0 ((gI st0 17 a1 0) - ((1 : Int32)))) 8 0 0 ((gI (sI st0 17 a1 0 ((gI st0 17 a1 0) - ((1 : Int32)))) 8 0 0) + ((1 : Int32)))) 16 a1 0))) + (gI (sI (sI st0 17 a1 0 ((gI st0 17 a1 0) - ((1 : Int32)))) 8 0 0 ((gI (sI st0 17 a1 0 ((gI st0 17 a1 0) - ((1 : Int32)))) 8 0 0) + ((1 : Int32)))) 20 a1 0)).toNatClampNeg)), .int (gI (sI st5 18 a1 0 ((gI st5 18 a1 0) - (r4 / ((10 : Int32))))) 18 a1 0)]) (rest := []) ⟨hx, hb, hml, hown, hts⟩ (c_Mo_reckoned l D A b0 cA (sI st5 18 a1 0 ((gI st5 18 a1 0) - (r4 / ((10 : Int32))))) a1 fa1 hf_fa1 (gI (sI (sI st0 17 a1 0 ((gI st0 17 a1 0) - ((1 : Int32)))) 8 0 0 ((gI (sI st0 17 a1 0 ((gI st0 17 a1 0) - ((1 : Int32)))) 8 0 0) + ((1 : Int32)))) 0 0 (((((24 : Int32)) * ((((6 : Int32)) * (gI (sI (sI st0 17 a1 0 ((gI st0 17 a1 0) - ((1 : Int32)))) 8 0 0 ((gI (sI st0 17 a1 0 ((gI st0 17 a1 0) - ((1 : Int32)))) 8 0 0) + ((1 : Int32)))) 14 a1 0)) + (gI (sI (sI st0 17 a1 0 ((gI st0 17 a1 0) - ((1 : Int32)))) 8 0 0 ((gI (sI st0 17 a1 0 ((gI st0 17 a1 0) - ((1 : Int32)))) 8 0 0) + ((1 : Int32)))) 16 a1 0))) + (gI (sI (sI st0 17 a1 0 ((gI st0 17 a1 0) - ((1 : Int32)))) 8 0 0 ((gI (sI st0 17 a1 0 ((gI st0 17 a1 0) - ((1 : Int32)))) 8 0 0) + ((1 : Int32)))) 20 a1 0)).toNatClampNeg)) (gI (sI st5 18 a1 0 ((gI st5 18 a1 0) - (r4 / ((10 : Int32))))) 18 a1 0) r67 st68 h69) (cwV 3 hts (gw_V w_501274e5 w_26945c38 w_f78928f2 w_18f41a94 w_30f75d5c) rfl rfl rfl (by decide +kernel) ⟨by show 2 + 1 ≤ 5 * d + 13; omega, by show 8 + (8 + 11) + (65) ≤ 139 * d + 284; omega⟩) (rf_preM hK hO) rfl rfl hl.1 rfl (lv_room (Nat.le_of_ble_eq_true rfl)) dX9_done_171 ⟨by have q1 := E_st5; have q2 := y_st68; unfold Ext at q1 q2; show (gR st5 101 2 - gR st0 101 2) + 0 ≤ gR st' 101 2 - gR st0 101 2; omega, by have q1 := E_st5; have q2 := y_st68; unfold Ext at q1 q2; show (gR st5 101 3 - gR st0 101 3) + 0 ≤ gR st' 101 3 - gR st0 101 3; omega⟩) hO (fun H locs hO => ?_)
              have hf_fa1 : rfF st68 a1 fa1 := rfF.ext (show rfF st5 a1 fa1 from hf_fa1) x_st68
              have E_st68 : Ext st0 st68 := E_st5.trans x_st68
              refine W.widen (k := gR st68 101 2 - gR st0 101 2) (n := gR st68 101 3 - gR st0 101 3) (by have q1 := E_st5; have q2 := x_st68; unfold Ext at q1 q2; omega) (by have q1 := E_st5; have q2 := x_st68; unfold Ext at q1 q2; omega) ?_
              obtain ⟨rfl, rfl⟩ := ret2 h; exact rf_iret hx hb hr hlocks hO dX9_done_174
        · have h := ite_f c9 h
          refine lv_bipush (v := 11) hx hb dX9_done_131 (by decide) ?_
          obtain ⟨rfl, rfl⟩ := ret2 h; exact rf_iret hx hb hr hlocks hO dX9_done_133
    · have h := ite_f c7 h
      refine lv_bipush (v := 12) hx hb dX9_done_95 (by decide) ?_
      obtain ⟨rfl, rfl⟩ := ret2 h; exact rf_iret hx hb hr hlocks hO dX9_done_97
  · have h := ite_t c1 h
    refine lv_bipush (v := 7) hx hb dX9_done_7 (by decide) ?_
    obtain ⟨rfl, rfl⟩ := ret2 h; exact rf_iret hx hb hr hlocks hO dX9_done_9
-- CallWalkerModel goes
def j_Mo_goes_L18 (RAN : Nat → Int64 → CwS → Option (Int32 × CwS)) : Nat → Nat → Int32 → CwS → Option (Int32 × CwS)
  | 0, _, _, _ => none
  | n + 1, x1, x2, st =>
    if x2 ≤ (gI st 20 x1 0) then
      some ((100 : Int32), st)
    else
      bR (j_Mo_done RAN x1 st) fun r3 st4 =>
      if r3 = ((100 : Int32)) then
        some (r3, st4)
      else
        if r3 = ((99 : Int32)) then
          some (r3, st4)
        else
          if r3 = ((0 : Int32)) then
            j_Mo_goes_L18 RAN n x1 x2 st4
          else
            if r3 ≤ ((0 : Int32)) then
              if (gI (sI st4 9 0 0 ((gI st4 9 0 0) + ((0 : Int32)))) 19 x1 0) = ((0 : Int32)) then
                some (-r3, sI st4 9 0 0 ((gI st4 9 0 0) + ((0 : Int32))))
              else
                ck (ix (gI (sI (sI st4 9 0 0 ((gI st4 9 0 0) + ((0 : Int32)))) 19 x1 0 ((gI (sI st4 9 0 0 ((gI st4 9 0 0) + ((0 : Int32)))) 19 x1 0) - ((1 : Int32)))) 19 x1 0) 4) <|
                bV (j_MF_number x1 ((-r3).toInt64) (sI (sI (sI st4 9 0 0 ((gI st4 9 0 0) + ((0 : Int32)))) 19 x1 0 ((gI (sI st4 9 0 0 ((gI st4 9 0 0) + ((0 : Int32)))) 19 x1 0) - ((1 : Int32)))) 18 x1 0 (if (gI (sI (sI st4 9 0 0 ((gI st4 9 0 0) + ((0 : Int32)))) 19 x1 0 ((gI (sI st4 9 0 0 ((gI st4 9 0 0) + ((0 : Int32)))) 19 x1 0) - ((1 : Int32)))) 23 x1 ((gI (sI (sI st4 9 0 0 ((gI st4 9 0 0) + ((0 : Int32)))) 19 x1 0 ((gI (sI st4 9 0 0 ((gI st4 9 0 0) + ((0 : Int32)))) 19 x1 0) - ((1 : Int32)))) 19 x1 0).toNatClampNeg)) < (gI (sI (sI st4 9 0 0 ((gI st4 9 0 0) + ((0 : Int32)))) 19 x1 0 ((gI (sI st4 9 0 0 ((gI st4 9 0 0) + ((0 : Int32)))) 19 x1 0) - ((1 : Int32)))) 18 x1 0) then (gI (sI (sI st4 9 0 0 ((gI st4 9 0 0) + ((0 : Int32)))) 19 x1 0 ((gI (sI st4 9 0 0 ((gI st4 9 0 0) + ((0 : Int32)))) 19 x1 0) - ((1 : Int32)))) 23 x1 ((gI (sI (sI st4 9 0 0 ((gI st4 9 0 0) + ((0 : Int32)))) 19 x1 0 ((gI (sI st4 9 0 0 ((gI st4 9 0 0) + ((0 : Int32)))) 19 x1 0) - ((1 : Int32)))) 19 x1 0).toNatClampNeg)) else (gI (sI (sI st4 9 0 0 ((gI st4 9 0 0) + ((0 : Int32)))) 19 x1 0 ((gI (sI st4 9 0 0 ((gI st4 9 0 0) + ((0 : Int32)))) 19 x1 0) - ((1 : Int32)))) 18 x1 0)))) fun st13 =>
                ck (ix (gI st13 19 x1 0) 4) <|
                j_Mo_goes_L18 RAN n x1 x2 (sI st13 20 x1 0 (gI st13 22 x1 ((gI st13 19 x1 0).toNatClampNeg)))
            else
              if (gI st4 9 0 0) = ((10 : Int32)) then
                some ((99 : Int32), st4)
              else
                if (gI (sI st4 9 0 0 ((gI st4 9 0 0) + ((1 : Int32)))) 19 x1 0) = ((0 : Int32)) then
                  some (r3, sI st4 9 0 0 ((gI st4 9 0 0) + ((1 : Int32))))
                else
                  ck (ix (gI (sI (sI st4 9 0 0 ((gI st4 9 0 0) + ((1 : Int32)))) 19 x1 0 ((gI (sI st4 9 0 0 ((gI st4 9 0 0) + ((1 : Int32)))) 19 x1 0) - ((1 : Int32)))) 19 x1 0) 4) <|
                  bV (j_MF_number x1 r3.toInt64 (sI (sI (sI st4 9 0 0 ((gI st4 9 0 0) + ((1 : Int32)))) 19 x1 0 ((gI (sI st4 9 0 0 ((gI st4 9 0 0) + ((1 : Int32)))) 19 x1 0) - ((1 : Int32)))) 18 x1 0 (if (gI (sI (sI st4 9 0 0 ((gI st4 9 0 0) + ((1 : Int32)))) 19 x1 0 ((gI (sI st4 9 0 0 ((gI st4 9 0 0) + ((1 : Int32)))) 19 x1 0) - ((1 : Int32)))) 23 x1 ((gI (sI (sI st4 9 0 0 ((gI st4 9 0 0) + ((1 : Int32)))) 19 x1 0 ((gI (sI st4 9 0 0 ((gI st4 9 0 0) + ((1 : Int32)))) 19 x1 0) - ((1 : Int32)))) 19 x1 0).toNatClampNeg)) < (gI (sI (sI st4 9 0 0 ((gI st4 9 0 0) + ((1 : Int32)))) 19 x1 0 ((gI (sI st4 9 0 0 ((gI st4 9 0 0) + ((1 : Int32)))) 19 x1 0) - ((1 : Int32)))) 18 x1 0) then (gI (sI (sI st4 9 0 0 ((gI st4 9 0 0) + ((1 : Int32)))) 19 x1 0 ((gI (sI st4 9 0 0 ((gI st4 9 0 0) + ((1 : Int32)))) 19 x1 0) - ((1 : Int32)))) 23 x1 ((gI (sI (sI st4 9 0 0 ((gI st4 9 0 0) + ((1 : Int32)))) 19 x1 0 ((gI (sI st4 9 0 0 ((gI st4 9 0 0) + ((1 : Int32)))) 19 x1 0) - ((1 : Int32)))) 19 x1 0).toNatClampNeg)) else (gI (sI (sI st4 9 0 0 ((gI st4 9 0 0) + ((1 : Int32)))) 19 x1 0 ((gI (sI st4 9 0 0 ((gI st4 9 0 0) + ((1 : Int32)))) 19 x1 0) - ((1 : Int32)))) 18 x1 0)))) fun st20 =>
                  ck (ix (gI st20 19 x1 0) 4) <|
                  j_Mo_goes_L18 RAN n x1 x2 (sI st20 20 x1 0 (gI st20 22 x1 ((gI st20 19 x1 0).toNatClampNeg)))
def j_Mo_goes (RAN : Nat → Int64 → CwS → Option (Int32 × CwS)) (a1 : Nat) (st0 : CwS) : Option (Int32 × CwS) :=
  ck (ix ((((6 : Int32)) * (gI st0 14 a1 0)) + (gI st0 16 a1 0)) 48) <|
  j_Mo_goes_L18 RAN 100000 a1 (gI st0 2 0 (((((6 : Int32)) * (gI st0 14 a1 0)) + (gI st0 16 a1 0)).toNatClampNeg)) st0
set_option maxHeartbeats 4000000 in
theorem x_Mo_goes_L18 {RAN : Nat → Int64 → CwS → Option (Int32 × CwS)} (hRx : ∀ (f : Nat) (v : Int64) (st : CwS) (r : Int32) (st' : CwS), RAN f v st = some (r, st') → Ext st st') {r : Int32} {st' : CwS} : ∀ (n : Nat) (x1 : Nat) (x2 : Int32) (st : CwS), j_Mo_goes_L18 RAN n x1 x2 st = some (r, st') → Ext st st' := by
  intro n
  induction n with
  | zero =>
    intro x1 x2 st h
    cases h
  | succ n ih =>
    intro x1 x2 st h
    unfold j_Mo_goes_L18 at h
    by_cases c2 : x2 ≤ (gI st 20 x1 0)
    · have h := ite_t c2 h
      obtain ⟨-, rfl⟩ := ret2 h; exact (show Ext st _ from Ext.refl st)
    · have h := ite_f c2 h
      obtain ⟨r3, st4, h5, h⟩ := bR_some h
      refine Ext.trans (a := st) (b := st4) (by have t := x_Mo_done hRx h5; exact t) ?_
      by_cases c6 : r3 = ((100 : Int32))
      · have h := ite_t c6 h
        obtain ⟨-, rfl⟩ := ret2 h; exact (show Ext st4 _ from Ext.refl st4)
      · have h := ite_f c6 h
        by_cases c7 : r3 = ((99 : Int32))
        · have h := ite_t c7 h
          obtain ⟨-, rfl⟩ := ret2 h; exact (show Ext st4 _ from Ext.refl st4)
        · have h := ite_f c7 h
          by_cases c8 : r3 = ((0 : Int32))
          · have h := ite_t c8 h
            have t := ih _ _ _ h; exact (show Ext st4 _ from t)
          · have h := ite_f c8 h
            by_cases c9 : r3 ≤ ((0 : Int32))
            · have h := ite_t c9 h
              by_cases c10 : (gI (sI st4 9 0 0 ((gI st4 9 0 0) + ((0 : Int32)))) 19 x1 0) = ((0 : Int32))
              · have h := ite_t c10 h
                obtain ⟨-, rfl⟩ := ret2 h; exact (show Ext st4 _ from Ext.refl st4)
              · have h := ite_f c10 h
                obtain ⟨-, h⟩ := ck_some h
                obtain ⟨st13, h14, h⟩ := bV_some h
                refine Ext.trans (a := st4) (b := st13) (by have t := x_MF_number h14; exact t) ?_
                obtain ⟨-, h⟩ := ck_some h
                have t := ih _ _ _ h; exact (show Ext st13 _ from t)
            · have h := ite_f c9 h
              by_cases c16 : (gI st4 9 0 0) = ((10 : Int32))
              · have h := ite_t c16 h
                obtain ⟨-, rfl⟩ := ret2 h; exact (show Ext st4 _ from Ext.refl st4)
              · have h := ite_f c16 h
                by_cases c17 : (gI (sI st4 9 0 0 ((gI st4 9 0 0) + ((1 : Int32)))) 19 x1 0) = ((0 : Int32))
                · have h := ite_t c17 h
                  obtain ⟨-, rfl⟩ := ret2 h; exact (show Ext st4 _ from Ext.refl st4)
                · have h := ite_f c17 h
                  obtain ⟨-, h⟩ := ck_some h
                  obtain ⟨st20, h21, h⟩ := bV_some h
                  refine Ext.trans (a := st4) (b := st20) (by have t := x_MF_number h21; exact t) ?_
                  obtain ⟨-, h⟩ := ck_some h
                  have t := ih _ _ _ h; exact (show Ext st20 _ from t)
set_option maxHeartbeats 4000000 in
theorem x_Mo_goes {RAN : Nat → Int64 → CwS → Option (Int32 × CwS)} (hRx : ∀ (f : Nat) (v : Int64) (st : CwS) (r : Int32) (st' : CwS), RAN f v st = some (r, st') → Ext st st') {a1 : Nat} {st0 : CwS} {r : Int32} {st' : CwS} (h : j_Mo_goes RAN a1 st0 = some (r, st')) : Ext st0 st' := by
  unfold j_Mo_goes at h
  obtain ⟨-, h⟩ := ck_some h
  have t := x_Mo_goes_L18 hRx _ _ _ _ h; exact (show Ext st0 _ from t)
set_option maxHeartbeats 4000000 in
set_option maxRecDepth 100000 in
theorem c_Mo_goes_L18 {l : Launch} {D : va_G} {A : Nat → Prop} {b0 : Nat} {cA : Nat → ClassId} {RAN : Nat → Int64 → CwS → Option (Int32 × CwS)} {d : Nat} (hRx : ∀ (f : Nat) (v : Int64) (st : CwS) (r : Int32) (st' : CwS), RAN f v st = some (r, st') → Ext st st') (hRc : ∀ (st0 : CwS) (f fa : Nat) (hf : rfF st0 f fa) (v : Int64) (r : Int32) (st' : CwS), RAN f v st0 = some (r, st') → Met l yX9_ran (wv yX9_ran cX9_ran 6 (some .int)) ({ frames := 5 * d + 10, cells := gR st' 101 2 - gR st0 101 2, slots := gR st' 101 3 - gR st0 101 3, locals := 139 * d + 200 }) (va_Pc [.ref b0, .ref fa, .long v] (rfU D A b0 cA st0)) (rfQi D A b0 cA r st') (gR st' 101 2 - gR st0 101 2) (gR st' 101 3 - gR st0 101 3) A) {p : Program} {e : Env} {s : State} {m : MethodId} {args : Array Value} {below : List Frame} {meth : Method} {c : Code} (S : CallFix p m c cX9_goes 6 s args (wv yX9_goes cX9_goes 6 (some .int)) RX9) (hr : meth.sig.returnType = some .int) (hlocks : meth.locks = false) (hK : rfK D cA s) (r : Int32) (st' : CwS) (st0 : CwS) : ∀ (n : Nat) (st : CwS) (x1 : Nat) (fx1 : Nat) (hf_fx1 : rfF st x1 fx1) (x2 : Int32) (H : Heap) (locs : List Loc) (ls : Array Slot), j_Mo_goes_L18 RAN n x1 x2 st = some (r, st') → rfO D A b0 cA s st H locs → lv_has ls 6 [(0, .ref b0), (1, .ref fx1), (2, .int x2)] → Ext st0 st → W p l e ({ frames := 5 * d + 14, cells := gR st' 101 2 - gR st0 101 2, slots := gR st' 101 3 - gR st0 101 3, locals := 139 * d + 314 }) s m args below meth c H locs (gR st 101 2 - gR st0 101 2) (gR st 101 3 - gR st0 101 3) (MQ below (rfQi D A b0 cA r st') args s (gR st' 101 2 - gR st0 101 2) (gR st' 101 3 - gR st0 101 3) A) (F0 m 18 ls []) := by
  obtain ⟨hx, hb, hml, hown, hts⟩ := S
  have hgw := fun (w : Cond) (h : w ∈ gwW) => hts w (List.mem_cons_of_mem _ h)
  have k16 := hgw _ w_18ab44c4
  have k67 := hgw _ w_1c4b90a6
  have k70 := hgw _ w_3b4ec9b7
  have k73 := hgw _ w_f693c208
  have k80 := hgw _ w_4931c96f
  have k115 := hgw _ w_71340fd1
  have k118 := hgw _ w_03052ef3
  have k121 := hgw _ w_32a6cc1e
  have k212 := hgw _ w_a74db918
  have k215 := hgw _ w_ca9c866c
  intro n
  induction n with
  | zero =>
    intro st x1 fx1 hf_fx1 x2 H locs ls h hO hl E_st
    cases h
  | succ n ih =>
    intro st x1 fx1 hf_fx1 x2 H locs ls h hO hl E_st
    unfold j_Mo_goes_L18 at h
    refine lv_aload_n hx hb dX9_goes_18 rfl (lv_at hl 1 rfl) ?_
    refine gf_MF_at hx hb hgw iwMF hown hK hO hf_fx1 k73 dX9_goes_19 ?_
    refine lv_iload_n hx hb dX9_goes_22 rfl (lv_at hl 2 rfl) ?_
    refine lv_icmp_ge (tgt := 173) hx hb dX9_goes_23 (by decide) (fun c2 => ?_) (fun c2 => ?_)
    · have h := ite_t c2 h
      refine lv_bipush (v := 100) hx hb dX9_goes_173 (by decide) ?_
      obtain ⟨rfl, rfl⟩ := ret2 h; exact rf_iret hx hb hr hlocks hO dX9_goes_175
    · have h := ite_f c2 h
      refine lv_aload_n hx hb dX9_goes_26 rfl (lv_at hl 0 rfl) ?_
      refine lv_aload_n hx hb dX9_goes_27 rfl (lv_at hl 1 rfl) ?_
      have y_st4 : Ext st st' := by
        obtain ⟨r3, st4, h5, h⟩ := bR_some h
        refine Ext.trans (a := st) (b := st4) (by have t := x_Mo_done hRx h5; exact t) ?_
        by_cases c6 : r3 = ((100 : Int32))
        · have h := ite_t c6 h
          obtain ⟨-, rfl⟩ := ret2 h; exact (show Ext st4 _ from Ext.refl st4)
        · have h := ite_f c6 h
          by_cases c7 : r3 = ((99 : Int32))
          · have h := ite_t c7 h
            obtain ⟨-, rfl⟩ := ret2 h; exact (show Ext st4 _ from Ext.refl st4)
          · have h := ite_f c7 h
            by_cases c8 : r3 = ((0 : Int32))
            · have h := ite_t c8 h
              have t := x_Mo_goes_L18 hRx _ _ _ _ h; exact (show Ext st4 _ from t)
            · have h := ite_f c8 h
              by_cases c9 : r3 ≤ ((0 : Int32))
              · have h := ite_t c9 h
                by_cases c10 : (gI (sI st4 9 0 0 ((gI st4 9 0 0) + ((0 : Int32)))) 19 x1 0) = ((0 : Int32))
                · have h := ite_t c10 h
                  obtain ⟨-, rfl⟩ := ret2 h; exact (show Ext st4 _ from Ext.refl st4)
                · have h := ite_f c10 h
                  obtain ⟨-, h⟩ := ck_some h
                  obtain ⟨st13, h14, h⟩ := bV_some h
                  refine Ext.trans (a := st4) (b := st13) (by have t := x_MF_number h14; exact t) ?_
                  obtain ⟨-, h⟩ := ck_some h
                  have t := x_Mo_goes_L18 hRx _ _ _ _ h; exact (show Ext st13 _ from t)
              · have h := ite_f c9 h
                by_cases c16 : (gI st4 9 0 0) = ((10 : Int32))
                · have h := ite_t c16 h
                  obtain ⟨-, rfl⟩ := ret2 h; exact (show Ext st4 _ from Ext.refl st4)
                · have h := ite_f c16 h
                  by_cases c17 : (gI (sI st4 9 0 0 ((gI st4 9 0 0) + ((1 : Int32)))) 19 x1 0) = ((0 : Int32))
                  · have h := ite_t c17 h
                    obtain ⟨-, rfl⟩ := ret2 h; exact (show Ext st4 _ from Ext.refl st4)
                  · have h := ite_f c17 h
                    obtain ⟨-, h⟩ := ck_some h
                    obtain ⟨st20, h21, h⟩ := bV_some h
                    refine Ext.trans (a := st4) (b := st20) (by have t := x_MF_number h21; exact t) ?_
                    obtain ⟨-, h⟩ := ck_some h
                    have t := x_Mo_goes_L18 hRx _ _ _ _ h; exact (show Ext st20 _ from t)
      obtain ⟨r3, st4, h5, h⟩ := bR_some h
      have x_st4 : Ext st st4 := by have t := x_Mo_done hRx h5; exact t
      have y2_st4 : Ext st4 st' := by
        by_cases c6 : r3 = ((100 : Int32))
        · have h := ite_t c6 h
          obtain ⟨-, rfl⟩ := ret2 h; exact (show Ext st4 _ from Ext.refl st4)
        · have h := ite_f c6 h
          by_cases c7 : r3 = ((99 : Int32))
          · have h := ite_t c7 h
            obtain ⟨-, rfl⟩ := ret2 h; exact (show Ext st4 _ from Ext.refl st4)
          · have h := ite_f c7 h
            by_cases c8 : r3 = ((0 : Int32))
            · have h := ite_t c8 h
              have t := x_Mo_goes_L18 hRx _ _ _ _ h; exact (show Ext st4 _ from t)
            · have h := ite_f c8 h
              by_cases c9 : r3 ≤ ((0 : Int32))
              · have h := ite_t c9 h
                by_cases c10 : (gI (sI st4 9 0 0 ((gI st4 9 0 0) + ((0 : Int32)))) 19 x1 0) = ((0 : Int32))
                · have h := ite_t c10 h
                  obtain ⟨-, rfl⟩ := ret2 h; exact (show Ext st4 _ from Ext.refl st4)
                · have h := ite_f c10 h
                  obtain ⟨-, h⟩ := ck_some h
                  obtain ⟨st13, h14, h⟩ := bV_some h
                  refine Ext.trans (a := st4) (b := st13) (by have t := x_MF_number h14; exact t) ?_
                  obtain ⟨-, h⟩ := ck_some h
                  have t := x_Mo_goes_L18 hRx _ _ _ _ h; exact (show Ext st13 _ from t)
              · have h := ite_f c9 h
                by_cases c16 : (gI st4 9 0 0) = ((10 : Int32))
                · have h := ite_t c16 h
                  obtain ⟨-, rfl⟩ := ret2 h; exact (show Ext st4 _ from Ext.refl st4)
                · have h := ite_f c16 h
                  by_cases c17 : (gI (sI st4 9 0 0 ((gI st4 9 0 0) + ((1 : Int32)))) 19 x1 0) = ((0 : Int32))
                  · have h := ite_t c17 h
                    obtain ⟨-, rfl⟩ := ret2 h; exact (show Ext st4 _ from Ext.refl st4)
                  · have h := ite_f c17 h
                    obtain ⟨-, h⟩ := ck_some h
                    obtain ⟨st20, h21, h⟩ := bV_some h
                    refine Ext.trans (a := st4) (b := st20) (by have t := x_MF_number h21; exact t) ?_
                    obtain ⟨-, h⟩ := ck_some h
                    have t := x_Mo_goes_L18 hRx _ _ _ _ h; exact (show Ext st20 _ from t)
      refine rf_calli (va_runV (As := [.ref fx1]) (rest := []) ⟨hx, hb, hml, hown, hts⟩ (c_Mo_done l D A b0 cA RAN d hRx hRc st x1 fx1 hf_fx1 r3 st4 h5) (cwV 1 hts (gw_V w_d47c33f0 w_cea816cf w_7bdfa933 w_18f41a94 w_b309e3b0) rfl rfl rfl (by decide +kernel) ⟨by show (5 * d + 13) + 1 ≤ 5 * d + 14; omega, by show 8 + (11 + 11) + (139 * d + 284) ≤ 139 * d + 314; omega⟩) (rf_preM hK hO) rfl rfl hl.1 rfl (lv_room (Nat.le_of_ble_eq_true rfl)) dX9_goes_28 ⟨by have q1 := E_st; have q2 := x_st4; have q3 := y2_st4; unfold Ext at q1 q2 q3; show (gR st 101 2 - gR st0 101 2) + (gR st4 101 2 - gR st 101 2) ≤ gR st' 101 2 - gR st0 101 2; omega, by have q1 := E_st; have q2 := x_st4; have q3 := y2_st4; unfold Ext at q1 q2 q3; show (gR st 101 3 - gR st0 101 3) + (gR st4 101 3 - gR st 101 3) ≤ gR st' 101 3 - gR st0 101 3; omega⟩) hO (fun H locs hO => ?_)
      have hf_fx1 : rfF st4 x1 fx1 := rfF.ext (show rfF st x1 fx1 from hf_fx1) x_st4
      have E_st4 : Ext st0 st4 := E_st.trans x_st4
      refine W.widen (k := gR st4 101 2 - gR st0 101 2) (n := gR st4 101 3 - gR st0 101 3) (by have q1 := E_st; have q2 := x_st4; unfold Ext at q1 q2; omega) (by have q1 := E_st; have q2 := x_st4; unfold Ext at q1 q2; omega) ?_
      refine lv_istore_n (lv' := [(3, .int r3), (0, .ref b0), (1, .ref fx1), (2, .int x2)]) hx hb dX9_goes_31 rfl hl (by decide) rfl (fun ls hl => ?_)
      refine lv_iload_n hx hb dX9_goes_32 rfl (lv_at hl 0 rfl) ?_
      refine lv_bipush (v := 100) hx hb dX9_goes_33 (by decide) ?_
      refine lv_icmp_eq (tgt := 44) hx hb dX9_goes_35 (by decide) (fun c6 => ?_) (fun c6 => ?_)
      · have h := ite_t c6 h
        refine lv_iload_n hx hb dX9_goes_44 rfl (lv_at hl 0 rfl) ?_
        obtain ⟨rfl, rfl⟩ := ret2 h; exact rf_iret hx hb hr hlocks hO dX9_goes_45
      · have h := ite_f c6 h
        refine lv_iload_n hx hb dX9_goes_38 rfl (lv_at hl 0 rfl) ?_
        refine lv_bipush (v := 99) hx hb dX9_goes_39 (by decide) ?_
        refine lv_icmp_ne (tgt := 46) hx hb dX9_goes_41 (by decide) (fun c7 => ?_) (fun c7 => ?_)
        · have h := ite_f c7 h
          refine lv_iload_n hx hb dX9_goes_46 rfl (lv_at hl 0 rfl) ?_
          refine lv_if_eq (tgt := 170) hx hb dX9_goes_47 (by decide) (fun c8 => ?_) (fun c8 => ?_)
          · have h := ite_t c8 h
            refine lv_goto (tgt := 18) hx hb dX9_goes_170 (by decide) ?_
            exact ih st4 x1 fx1 hf_fx1 x2 _ _ _ h hO (lv_sub hl [1, 2, 3] rfl) (show Ext st0 _ from E_st4)
          · have h := ite_f c8 h
            refine lv_iload_n hx hb dX9_goes_50 rfl (lv_at hl 0 rfl) ?_
            refine lv_if_le (tgt := 58) hx hb dX9_goes_51 (by decide) (fun c9 => ?_) (fun c9 => ?_)
            · have h := ite_t c9 h
              refine lv_iconst (v := 0) hx hb dX9_goes_58 (by decide) ?_
              refine lv_istore (lv' := [(4, .int ((0 : Int32))), (3, .int r3), (0, .ref b0), (1, .ref fx1), (2, .int x2)]) hx hb dX9_goes_59 hl (by decide) rfl (fun ls hl => ?_)
              refine lv_iload hx hb dX9_goes_61 (lv_at hl 0 rfl) ?_
              refine lv_if_eq (tgt := 70) hx hb dX9_goes_63 (by decide) (fun _ => ?_) (fun c0 => absurd c0 (by decide))
              refine lv_iload_n hx hb dX9_goes_70 rfl (lv_at hl 1 rfl) ?_
              refine lv_ineg hx hb dX9_goes_71 ?_
              refine lv_istore (lv' := [(5, .int (-r3)), (4, .int ((0 : Int32))), (3, .int r3), (0, .ref b0), (1, .ref fx1), (2, .int x2)]) hx hb dX9_goes_72 hl (by decide) rfl (fun ls hl => ?_)
              refine lv_iload hx hb dX9_goes_74 (lv_at hl 1 rfl) ?_
              refine lv_if_eq (tgt := 91) hx hb dX9_goes_76 (by decide) (fun _ => ?_) (fun c0 => absurd c0 (by decide))
              refine lv_aload_n hx hb dX9_goes_91 rfl (lv_at hl 3 rfl) ?_
              refine lv_dup hx hb dX9_goes_92 rfl ?_
              refine gf_Mo_failures hx hb hgw iwMo hown hK hO k212 dX9_goes_93 ?_
              refine lv_iload hx hb dX9_goes_96 (lv_at hl 1 rfl) ?_
              refine lv_if_eq (tgt := 105) hx hb dX9_goes_98 (by decide) (fun _ => ?_) (fun c0 => absurd c0 (by decide))
              refine lv_iconst (v := 0) hx hb dX9_goes_105 (by decide) ?_
              refine lv_iadd hx hb dX9_goes_106 ?_
              refine pf_Mo_failures hx hb hgw iwMo hown hK hO k212 dX9_goes_107 (fun H locs hO => ?_)
              refine lv_aload_n hx hb dX9_goes_110 rfl (lv_at hl 4 rfl) ?_
              refine gf_MF_handlers hx hb hgw iwMF hown hK hO hf_fx1 k115 dX9_goes_111 ?_
              refine lv_if_ne (tgt := 120) hx hb dX9_goes_114 (by decide) (fun c10 => ?_) (fun c10 => ?_)
              · have h := ite_f c10 h
                refine lv_aload_n hx hb dX9_goes_120 rfl (lv_at hl 4 rfl) ?_
                refine lv_dup hx hb dX9_goes_121 rfl ?_
                refine gf_MF_handlers hx hb hgw iwMF hown hK hO hf_fx1 k115 dX9_goes_122 ?_
                refine lv_iconst (v := 1) hx hb dX9_goes_125 (by decide) ?_
                refine lv_isub hx hb dX9_goes_126 ?_
                refine pf_MF_handlers hx hb hgw iwMF hown hK hO hf_fx1 k115 dX9_goes_127 (fun H locs hO => ?_)
                refine lv_aload_n hx hb dX9_goes_130 rfl (lv_at hl 4 rfl) ?_
                refine lv_aload_n hx hb dX9_goes_131 rfl (lv_at hl 4 rfl) ?_
                refine gf_MF_high hx hb hgw iwMF hown hK hO hf_fx1 k80 dX9_goes_132 ?_
                refine lv_aload_n hx hb dX9_goes_135 rfl (lv_at hl 4 rfl) ?_
                refine gf_MF_handlerHighs hx hb hgw iwMF hown hK hO hf_fx1 k121 dX9_goes_136 ?_
                refine lv_aload_n hx hb dX9_goes_139 rfl (lv_at hl 4 rfl) ?_
                refine gf_MF_handlers hx hb hgw iwMF hown hK hO hf_fx1 k115 dX9_goes_140 ?_
                obtain ⟨hc11, h⟩ := ck_some h
                refine al_MHHighs hx hb hK hO hf_fx1 hc11 dX9_goes_143 ?_
                have ymm23 : Ext st4 st' := by
                  obtain ⟨st13, h14, h⟩ := bV_some h
                  refine Ext.trans (a := st4) (b := st13) (by have t := x_MF_number h14; exact t) ?_
                  obtain ⟨-, h⟩ := ck_some h
                  have t := x_Mo_goes_L18 hRx _ _ _ _ h; exact (show Ext st13 _ from t)
                refine va_mmin hx hb (by rw [hml]; exact hl.1.symm) hown k215 (hgw _ w_79b26afc) (hgw _ w_868a9286) (hgw _ w_0fd793e2) (by show 1 ≤ 5 * d + 14; omega) (Nat.le_trans (Nat.le_of_ble_eq_true rfl : _ ≤ 40) (by show 40 ≤ 139 * d + 314; omega)) (by have q1 := E_st4; have q2 := ymm23; unfold Ext at q1 q2; show gR st4 101 2 - gR st0 101 2 ≤ gR st' 101 2 - gR st0 101 2; omega) (by have q1 := E_st4; have q2 := ymm23; unfold Ext at q1 q2; show gR st4 101 3 - gR st0 101 3 ≤ gR st' 101 3 - gR st0 101 3; omega) dX9_goes_144 ?_
                refine pf_MF_high hx hb hgw iwMF hown hK hO hf_fx1 k80 dX9_goes_147 (fun H locs hO => ?_)
                refine lv_aload_n hx hb dX9_goes_150 rfl (lv_at hl 4 rfl) ?_
                refine lv_iload hx hb dX9_goes_151 (lv_at hl 0 rfl) ?_
                refine lv_i2l hx hb dX9_goes_153 rfl ?_
                have y_st13 : Ext st4 st' := by
                  obtain ⟨st13, h14, h⟩ := bV_some h
                  refine Ext.trans (a := st4) (b := st13) (by have t := x_MF_number h14; exact t) ?_
                  obtain ⟨-, h⟩ := ck_some h
                  have t := x_Mo_goes_L18 hRx _ _ _ _ h; exact (show Ext st13 _ from t)
                obtain ⟨st13, h14, h⟩ := bV_some h
                have x_st13 : Ext st4 st13 := by have t := x_MF_number h14; exact t
                refine rf_callv (va_runV (As := [.long ((-r3).toInt64)]) (rest := []) ⟨hx, hb, hml, hown, hts⟩ (c_MF_number l D A b0 cA (sI (sI (sI st4 9 0 0 ((gI st4 9 0 0) + ((0 : Int32)))) 19 x1 0 ((gI (sI st4 9 0 0 ((gI st4 9 0 0) + ((0 : Int32)))) 19 x1 0) - ((1 : Int32)))) 18 x1 0 (if (gI (sI (sI st4 9 0 0 ((gI st4 9 0 0) + ((0 : Int32)))) 19 x1 0 ((gI (sI st4 9 0 0 ((gI st4 9 0 0) + ((0 : Int32)))) 19 x1 0) - ((1 : Int32)))) 23 x1 ((gI (sI (sI st4 9 0 0 ((gI st4 9 0 0) + ((0 : Int32)))) 19 x1 0 ((gI (sI st4 9 0 0 ((gI st4 9 0 0) + ((0 : Int32)))) 19 x1 0) - ((1 : Int32)))) 19 x1 0).toNatClampNeg)) < (gI (sI (sI st4 9 0 0 ((gI st4 9 0 0) + ((0 : Int32)))) 19 x1 0 ((gI (sI st4 9 0 0 ((gI st4 9 0 0) + ((0 : Int32)))) 19 x1 0) - ((1 : Int32)))) 18 x1 0) then (gI (sI (sI st4 9 0 0 ((gI st4 9 0 0) + ((0 : Int32)))) 19 x1 0 ((gI (sI st4 9 0 0 ((gI st4 9 0 0) + ((0 : Int32)))) 19 x1 0) - ((1 : Int32)))) 23 x1 ((gI (sI (sI st4 9 0 0 ((gI st4 9 0 0) + ((0 : Int32)))) 19 x1 0 ((gI (sI st4 9 0 0 ((gI st4 9 0 0) + ((0 : Int32)))) 19 x1 0) - ((1 : Int32)))) 19 x1 0).toNatClampNeg)) else (gI (sI (sI st4 9 0 0 ((gI st4 9 0 0) + ((0 : Int32)))) 19 x1 0 ((gI (sI st4 9 0 0 ((gI st4 9 0 0) + ((0 : Int32)))) 19 x1 0) - ((1 : Int32)))) 18 x1 0))) x1 fx1 hf_fx1 ((-r3).toInt64) st13 h14) (cwV 1 hts (gw_V w_a50611e6 w_8ebaf0f1 w_dd21e4d3 w_18ea82d2 w_54e1986d) rfl rfl rfl (by decide +kernel) ⟨by show 1 + 1 ≤ 5 * d + 14; omega, by show 8 + (3 + 11) + (24) ≤ 139 * d + 314; omega⟩) (rf_preF hf_fx1 hK hO) rfl rfl hl.1 rfl (lv_room (Nat.le_of_ble_eq_true rfl)) dX9_goes_154 ⟨by have q1 := E_st4; have q2 := y_st13; unfold Ext at q1 q2; show (gR st4 101 2 - gR st0 101 2) + 0 ≤ gR st' 101 2 - gR st0 101 2; omega, by have q1 := E_st4; have q2 := y_st13; unfold Ext at q1 q2; show (gR st4 101 3 - gR st0 101 3) + 0 ≤ gR st' 101 3 - gR st0 101 3; omega⟩) hO (fun H locs hO => ?_)
                have hf_fx1 : rfF st13 x1 fx1 := rfF.ext (show rfF st4 x1 fx1 from hf_fx1) x_st13
                have E_st13 : Ext st0 st13 := E_st4.trans x_st13
                refine W.widen (k := gR st13 101 2 - gR st0 101 2) (n := gR st13 101 3 - gR st0 101 3) (by have q1 := E_st4; have q2 := x_st13; unfold Ext at q1 q2; omega) (by have q1 := E_st4; have q2 := x_st13; unfold Ext at q1 q2; omega) ?_
                refine lv_aload_n hx hb dX9_goes_157 rfl (lv_at hl 4 rfl) ?_
                refine lv_aload_n hx hb dX9_goes_158 rfl (lv_at hl 4 rfl) ?_
                refine gf_MF_handlerSteps hx hb hgw iwMF hown hK hO hf_fx1 k118 dX9_goes_159 ?_
                refine lv_aload_n hx hb dX9_goes_162 rfl (lv_at hl 4 rfl) ?_
                refine gf_MF_handlers hx hb hgw iwMF hown hK hO hf_fx1 k115 dX9_goes_163 ?_
                obtain ⟨hc15, h⟩ := ck_some h
                refine al_MHSteps hx hb hK hO hf_fx1 hc15 dX9_goes_166 ?_
                refine pf_MF_at hx hb hgw iwMF hown hK hO hf_fx1 k73 dX9_goes_167 (fun H locs hO => ?_)
                refine lv_goto (tgt := 18) hx hb dX9_goes_170 (by decide) ?_
                exact ih (sI st13 20 x1 0 (gI st13 22 x1 ((gI st13 19 x1 0).toNatClampNeg))) x1 fx1 hf_fx1 x2 _ _ _ h hO (lv_sub hl [3, 4, 5] rfl) (show Ext st0 _ from E_st13)
              · have h := ite_t c10 h
                refine lv_iload hx hb dX9_goes_117 (lv_at hl 0 rfl) ?_
                obtain ⟨rfl, rfl⟩ := ret2 h; exact rf_iret hx hb hr hlocks hO dX9_goes_119
            · have h := ite_f c9 h
              refine lv_iconst (v := 1) hx hb dX9_goes_54 (by decide) ?_
              refine lv_goto (tgt := 59) hx hb dX9_goes_55 (by decide) ?_
              refine lv_istore (lv' := [(4, .int ((1 : Int32))), (3, .int r3), (0, .ref b0), (1, .ref fx1), (2, .int x2)]) hx hb dX9_goes_59 hl (by decide) rfl (fun ls hl => ?_)
              refine lv_iload hx hb dX9_goes_61 (lv_at hl 0 rfl) ?_
              refine lv_if_eq (tgt := 70) hx hb dX9_goes_63 (by decide) (fun c0 => absurd c0 (by decide)) (fun _ => ?_)
              refine lv_iload_n hx hb dX9_goes_66 rfl (lv_at hl 1 rfl) ?_
              refine lv_goto (tgt := 72) hx hb dX9_goes_67 (by decide) ?_
              refine lv_istore (lv' := [(5, .int r3), (4, .int ((1 : Int32))), (3, .int r3), (0, .ref b0), (1, .ref fx1), (2, .int x2)]) hx hb dX9_goes_72 hl (by decide) rfl (fun ls hl => ?_)
              refine lv_iload hx hb dX9_goes_74 (lv_at hl 1 rfl) ?_
              refine lv_if_eq (tgt := 91) hx hb dX9_goes_76 (by decide) (fun c0 => absurd c0 (by decide)) (fun _ => ?_)
              refine lv_aload_n hx hb dX9_goes_79 rfl (lv_at hl 3 rfl) ?_
              refine gf_Mo_failures hx hb hgw iwMo hown hK hO k212 dX9_goes_80 ?_
              refine lv_bipush (v := 10) hx hb dX9_goes_83 (by decide) ?_
              refine lv_icmp_ne (tgt := 91) hx hb dX9_goes_85 (by decide) (fun c16 => ?_) (fun c16 => ?_)
              · have h := ite_f c16 h
                refine lv_aload_n hx hb dX9_goes_91 rfl (lv_at hl 3 rfl) ?_
                refine lv_dup hx hb dX9_goes_92 rfl ?_
                refine gf_Mo_failures hx hb hgw iwMo hown hK hO k212 dX9_goes_93 ?_
                refine lv_iload hx hb dX9_goes_96 (lv_at hl 1 rfl) ?_
                refine lv_if_eq (tgt := 105) hx hb dX9_goes_98 (by decide) (fun c0 => absurd c0 (by decide)) (fun _ => ?_)
                refine lv_iconst (v := 1) hx hb dX9_goes_101 (by decide) ?_
                refine lv_goto (tgt := 106) hx hb dX9_goes_102 (by decide) ?_
                refine lv_iadd hx hb dX9_goes_106 ?_
                refine pf_Mo_failures hx hb hgw iwMo hown hK hO k212 dX9_goes_107 (fun H locs hO => ?_)
                refine lv_aload_n hx hb dX9_goes_110 rfl (lv_at hl 4 rfl) ?_
                refine gf_MF_handlers hx hb hgw iwMF hown hK hO hf_fx1 k115 dX9_goes_111 ?_
                refine lv_if_ne (tgt := 120) hx hb dX9_goes_114 (by decide) (fun c17 => ?_) (fun c17 => ?_)
                · have h := ite_f c17 h
                  refine lv_aload_n hx hb dX9_goes_120 rfl (lv_at hl 4 rfl) ?_
                  refine lv_dup hx hb dX9_goes_121 rfl ?_
                  refine gf_MF_handlers hx hb hgw iwMF hown hK hO hf_fx1 k115 dX9_goes_122 ?_
                  refine lv_iconst (v := 1) hx hb dX9_goes_125 (by decide) ?_
                  refine lv_isub hx hb dX9_goes_126 ?_
                  refine pf_MF_handlers hx hb hgw iwMF hown hK hO hf_fx1 k115 dX9_goes_127 (fun H locs hO => ?_)
                  refine lv_aload_n hx hb dX9_goes_130 rfl (lv_at hl 4 rfl) ?_
                  refine lv_aload_n hx hb dX9_goes_131 rfl (lv_at hl 4 rfl) ?_
                  refine gf_MF_high hx hb hgw iwMF hown hK hO hf_fx1 k80 dX9_goes_132 ?_
                  refine lv_aload_n hx hb dX9_goes_135 rfl (lv_at hl 4 rfl) ?_
                  refine gf_MF_handlerHighs hx hb hgw iwMF hown hK hO hf_fx1 k121 dX9_goes_136 ?_
                  refine lv_aload_n hx hb dX9_goes_139 rfl (lv_at hl 4 rfl) ?_
                  refine gf_MF_handlers hx hb hgw iwMF hown hK hO hf_fx1 k115 dX9_goes_140 ?_
                  obtain ⟨hc18, h⟩ := ck_some h
                  refine al_MHHighs hx hb hK hO hf_fx1 hc18 dX9_goes_143 ?_
                  have ymm24 : Ext st4 st' := by
                    obtain ⟨st20, h21, h⟩ := bV_some h
                    refine Ext.trans (a := st4) (b := st20) (by have t := x_MF_number h21; exact t) ?_
                    obtain ⟨-, h⟩ := ck_some h
                    have t := x_Mo_goes_L18 hRx _ _ _ _ h; exact (show Ext st20 _ from t)
                  refine va_mmin hx hb (by rw [hml]; exact hl.1.symm) hown k215 (hgw _ w_79b26afc) (hgw _ w_868a9286) (hgw _ w_0fd793e2) (by show 1 ≤ 5 * d + 14; omega) (Nat.le_trans (Nat.le_of_ble_eq_true rfl : _ ≤ 40) (by show 40 ≤ 139 * d + 314; omega)) (by have q1 := E_st4; have q2 := ymm24; unfold Ext at q1 q2; show gR st4 101 2 - gR st0 101 2 ≤ gR st' 101 2 - gR st0 101 2; omega) (by have q1 := E_st4; have q2 := ymm24; unfold Ext at q1 q2; show gR st4 101 3 - gR st0 101 3 ≤ gR st' 101 3 - gR st0 101 3; omega) dX9_goes_144 ?_
                  refine pf_MF_high hx hb hgw iwMF hown hK hO hf_fx1 k80 dX9_goes_147 (fun H locs hO => ?_)
                  refine lv_aload_n hx hb dX9_goes_150 rfl (lv_at hl 4 rfl) ?_
                  refine lv_iload hx hb dX9_goes_151 (lv_at hl 0 rfl) ?_
                  refine lv_i2l hx hb dX9_goes_153 rfl ?_
                  have y_st20 : Ext st4 st' := by
                    obtain ⟨st20, h21, h⟩ := bV_some h
                    refine Ext.trans (a := st4) (b := st20) (by have t := x_MF_number h21; exact t) ?_
                    obtain ⟨-, h⟩ := ck_some h
                    have t := x_Mo_goes_L18 hRx _ _ _ _ h; exact (show Ext st20 _ from t)
                  obtain ⟨st20, h21, h⟩ := bV_some h
                  have x_st20 : Ext st4 st20 := by have t := x_MF_number h21; exact t
                  refine rf_callv (va_runV (As := [.long r3.toInt64]) (rest := []) ⟨hx, hb, hml, hown, hts⟩ (c_MF_number l D A b0 cA (sI (sI (sI st4 9 0 0 ((gI st4 9 0 0) + ((1 : Int32)))) 19 x1 0 ((gI (sI st4 9 0 0 ((gI st4 9 0 0) + ((1 : Int32)))) 19 x1 0) - ((1 : Int32)))) 18 x1 0 (if (gI (sI (sI st4 9 0 0 ((gI st4 9 0 0) + ((1 : Int32)))) 19 x1 0 ((gI (sI st4 9 0 0 ((gI st4 9 0 0) + ((1 : Int32)))) 19 x1 0) - ((1 : Int32)))) 23 x1 ((gI (sI (sI st4 9 0 0 ((gI st4 9 0 0) + ((1 : Int32)))) 19 x1 0 ((gI (sI st4 9 0 0 ((gI st4 9 0 0) + ((1 : Int32)))) 19 x1 0) - ((1 : Int32)))) 19 x1 0).toNatClampNeg)) < (gI (sI (sI st4 9 0 0 ((gI st4 9 0 0) + ((1 : Int32)))) 19 x1 0 ((gI (sI st4 9 0 0 ((gI st4 9 0 0) + ((1 : Int32)))) 19 x1 0) - ((1 : Int32)))) 18 x1 0) then (gI (sI (sI st4 9 0 0 ((gI st4 9 0 0) + ((1 : Int32)))) 19 x1 0 ((gI (sI st4 9 0 0 ((gI st4 9 0 0) + ((1 : Int32)))) 19 x1 0) - ((1 : Int32)))) 23 x1 ((gI (sI (sI st4 9 0 0 ((gI st4 9 0 0) + ((1 : Int32)))) 19 x1 0 ((gI (sI st4 9 0 0 ((gI st4 9 0 0) + ((1 : Int32)))) 19 x1 0) - ((1 : Int32)))) 19 x1 0).toNatClampNeg)) else (gI (sI (sI st4 9 0 0 ((gI st4 9 0 0) + ((1 : Int32)))) 19 x1 0 ((gI (sI st4 9 0 0 ((gI st4 9 0 0) + ((1 : Int32)))) 19 x1 0) - ((1 : Int32)))) 18 x1 0))) x1 fx1 hf_fx1 r3.toInt64 st20 h21) (cwV 1 hts (gw_V w_a50611e6 w_8ebaf0f1 w_dd21e4d3 w_18ea82d2 w_54e1986d) rfl rfl rfl (by decide +kernel) ⟨by show 1 + 1 ≤ 5 * d + 14; omega, by show 8 + (3 + 11) + (24) ≤ 139 * d + 314; omega⟩) (rf_preF hf_fx1 hK hO) rfl rfl hl.1 rfl (lv_room (Nat.le_of_ble_eq_true rfl)) dX9_goes_154 ⟨by have q1 := E_st4; have q2 := y_st20; unfold Ext at q1 q2; show (gR st4 101 2 - gR st0 101 2) + 0 ≤ gR st' 101 2 - gR st0 101 2; omega, by have q1 := E_st4; have q2 := y_st20; unfold Ext at q1 q2; show (gR st4 101 3 - gR st0 101 3) + 0 ≤ gR st' 101 3 - gR st0 101 3; omega⟩) hO (fun H locs hO => ?_)
                  have hf_fx1 : rfF st20 x1 fx1 := rfF.ext (show rfF st4 x1 fx1 from hf_fx1) x_st20
                  have E_st20 : Ext st0 st20 := E_st4.trans x_st20
                  refine W.widen (k := gR st20 101 2 - gR st0 101 2) (n := gR st20 101 3 - gR st0 101 3) (by have q1 := E_st4; have q2 := x_st20; unfold Ext at q1 q2; omega) (by have q1 := E_st4; have q2 := x_st20; unfold Ext at q1 q2; omega) ?_
                  refine lv_aload_n hx hb dX9_goes_157 rfl (lv_at hl 4 rfl) ?_
                  refine lv_aload_n hx hb dX9_goes_158 rfl (lv_at hl 4 rfl) ?_
                  refine gf_MF_handlerSteps hx hb hgw iwMF hown hK hO hf_fx1 k118 dX9_goes_159 ?_
                  refine lv_aload_n hx hb dX9_goes_162 rfl (lv_at hl 4 rfl) ?_
                  refine gf_MF_handlers hx hb hgw iwMF hown hK hO hf_fx1 k115 dX9_goes_163 ?_
                  obtain ⟨hc22, h⟩ := ck_some h
                  refine al_MHSteps hx hb hK hO hf_fx1 hc22 dX9_goes_166 ?_
                  refine pf_MF_at hx hb hgw iwMF hown hK hO hf_fx1 k73 dX9_goes_167 (fun H locs hO => ?_)
                  refine lv_goto (tgt := 18) hx hb dX9_goes_170 (by decide) ?_
                  exact ih (sI st20 20 x1 0 (gI st20 22 x1 ((gI st20 19 x1 0).toNatClampNeg))) x1 fx1 hf_fx1 x2 _ _ _ h hO (lv_sub hl [3, 4, 5] rfl) (show Ext st0 _ from E_st20)
                · have h := ite_t c17 h
                  refine lv_iload hx hb dX9_goes_117 (lv_at hl 0 rfl) ?_
                  obtain ⟨rfl, rfl⟩ := ret2 h; exact rf_iret hx hb hr hlocks hO dX9_goes_119
              · have h := ite_t c16 h
                refine lv_bipush (v := 99) hx hb dX9_goes_88 (by decide) ?_
                obtain ⟨rfl, rfl⟩ := ret2 h; exact rf_iret hx hb hr hlocks hO dX9_goes_90
        · have h := ite_t c7 h
          refine lv_iload_n hx hb dX9_goes_44 rfl (lv_at hl 0 rfl) ?_
          obtain ⟨rfl, rfl⟩ := ret2 h; exact rf_iret hx hb hr hlocks hO dX9_goes_45
set_option maxHeartbeats 4000000 in
set_option maxRecDepth 100000 in
theorem c_Mo_goes (l : Launch) (D : va_G) (A : Nat → Prop) (b0 : Nat) (cA : Nat → ClassId) (RAN : Nat → Int64 → CwS → Option (Int32 × CwS)) (d : Nat) (hRx : ∀ (f : Nat) (v : Int64) (st : CwS) (r : Int32) (st' : CwS), RAN f v st = some (r, st') → Ext st st') (hRc : ∀ (st0 : CwS) (f fa : Nat) (hf : rfF st0 f fa) (v : Int64) (r : Int32) (st' : CwS), RAN f v st0 = some (r, st') → Met l yX9_ran (wv yX9_ran cX9_ran 6 (some .int)) ({ frames := 5 * d + 10, cells := gR st' 101 2 - gR st0 101 2, slots := gR st' 101 3 - gR st0 101 3, locals := 139 * d + 200 }) (va_Pc [.ref b0, .ref fa, .long v] (rfU D A b0 cA st0)) (rfQi D A b0 cA r st') (gR st' 101 2 - gR st0 101 2) (gR st' 101 3 - gR st0 101 3) A) (st0 : CwS) (a1 : Nat) (fa1 : Nat) (hf_fa1 : rfF st0 a1 fa1) (r : Int32) (st' : CwS) (h : j_Mo_goes RAN a1 st0 = some (r, st')) : Met l yX9_goes (wv yX9_goes cX9_goes 6 (some .int)) ({ frames := 5 * d + 14, cells := gR st' 101 2 - gR st0 101 2, slots := gR st' 101 3 - gR st0 101 3, locals := 139 * d + 314 }) (va_Pc [.ref b0, .ref fa1] (rfU D A b0 cA st0)) (rfQi D A b0 cA r st') (gR st' 101 2 - gR st0 101 2) (gR st' 101 3 - gR st0 101 3) A := by
  refine Met.ofW (cc := cX9_goes) (maxL := 6) (ret := some .int) (by decide) rfl ?_
  intro p e s m args below meth c s₁ B hml hv
  obtain ⟨rfl, hP, hD, hz, hK⟩ := hv
  have hx := B.exec
  have hb := B.bytes
  have hr := B.returns
  have hts := atoms_spec (ws := wv yX9_goes cX9_goes 6 (some .int)) B.pre
  have hown : s.vm.findClass RX9 = some m.cls := findClass_of_methodNamed B.named
  have hlocks := B.notSynchronized
  have hO : rfO D A b0 cA s st0 s.heap [] := ⟨hP, hD, va_S.rf, hz⟩
  have hl := lv_entry ([.ref b0, .ref fa1]) (n := 6) (Nat.le_of_ble_eq_true rfl)
  rw [lg_entry_eq]
  generalize (lg_sl ([.ref b0, .ref fa1]) ++ List.replicate (6 - (lg_sl ([.ref b0, .ref fa1])).length) Slot.unset).toArray = ls at hl ⊢
  have hl : lv_has ls 6 [(0, .ref b0), (1, .ref fa1)] := hl
  have hgw := fun (w : Cond) (h : w ∈ gwW) => hts w (List.mem_cons_of_mem _ h)
  have k16 := hgw _ w_18ab44c4
  have k67 := hgw _ w_1c4b90a6
  have k70 := hgw _ w_3b4ec9b7
  have k73 := hgw _ w_f693c208
  have k80 := hgw _ w_4931c96f
  have k115 := hgw _ w_71340fd1
  have k118 := hgw _ w_03052ef3
  have k121 := hgw _ w_32a6cc1e
  have k212 := hgw _ w_a74db918
  have k215 := hgw _ w_ca9c866c
  unfold j_Mo_goes at h
  have E_st0 := Ext.refl st0
  refine W.widen (k := gR st0 101 2 - gR st0 101 2) (n := gR st0 101 3 - gR st0 101 3) (Nat.zero_le _) (Nat.zero_le _) ?_
  refine lv_aload_n hx hb dX9_goes_0 rfl (lv_at hl 0 rfl) ?_
  refine gf_Mo_sizes hx hb hgw iwMo hown hK hO k16 dX9_goes_1 ?_
  refine lv_bipush (v := 6) hx hb dX9_goes_4 (by decide) ?_
  refine lv_aload_n hx hb dX9_goes_6 rfl (lv_at hl 1 rfl) ?_
  refine gf_MF_contract hx hb hgw iwMF hown hK hO hf_fa1 k67 dX9_goes_7 ?_
  refine lv_imul hx hb dX9_goes_10 ?_
  refine lv_aload_n hx hb dX9_goes_11 rfl (lv_at hl 1 rfl) ?_
  refine gf_MF_behaviour hx hb hgw iwMF hown hK hO hf_fa1 k70 dX9_goes_12 ?_
  refine lv_iadd hx hb dX9_goes_15 ?_
  obtain ⟨hc1, h⟩ := ck_some h
  refine al_MSizes hx hb hK hO hc1 dX9_goes_16 ?_
  refine lv_istore_n (lv' := [(2, .int (gI st0 2 0 (((((6 : Int32)) * (gI st0 14 a1 0)) + (gI st0 16 a1 0)).toNatClampNeg))), (0, .ref b0), (1, .ref fa1)]) hx hb dX9_goes_17 rfl hl (by decide) rfl (fun ls hl => ?_)
  exact c_Mo_goes_L18 hRx hRc ⟨hx, hb, hml, hown, hts⟩ hr hlocks hK r st' st0 100000 st0 a1 fa1 hf_fa1 (gI st0 2 0 (((((6 : Int32)) * (gI st0 14 a1 0)) + (gI st0 16 a1 0)).toNatClampNeg)) _ _ _ h hO (lv_sub hl [1, 2, 0] rfl) (show Ext st0 _ from E_st0)
