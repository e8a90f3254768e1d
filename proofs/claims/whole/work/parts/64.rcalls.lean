-- CallWalkerModel calls
def j_Mo_calls_L244 (RAN : Nat → Int64 → CwS → Option (Int32 × CwS)) (x1 : Nat) (x3 : Int32) (x4 : Int64) (x10 : Nat) (x12 : Nat) (st : CwS) : Option (Int32 × CwS) :=
  ck (ix (x3 + ((2 : Int32))) 13) <|
  ck (ix (x3 + ((2 : Int32))) 13) <|
  bV (j_MF_push x10 (gI st 21 x1 ((x3 + ((2 : Int32))).toNatClampNeg)) (gL st 7 x1 ((x3 + ((2 : Int32))).toNatClampNeg)) x12 st) fun st39 =>
  bR (RAN x10 x4 st39) fun r41 st42 =>
  if r41 = ((100 : Int32)) then
    bV (j_MF_number x1 (gL (sI st42 17 x1 0 ((gI st42 17 x1 0) - ((gI st42 8 0 0) - (gI st39 8 0 0)))) 4 x10 0) (sI st42 17 x1 0 ((gI st42 17 x1 0) - ((gI st42 8 0 0) - (gI st39 8 0 0))))) fun st47 =>
    some ((0 : Int32), st47)
  else
    if r41 = ((99 : Int32)) then
      some ((99 : Int32), sI st42 17 x1 0 ((gI st42 17 x1 0) - ((gI st42 8 0 0) - (gI st39 8 0 0))))
    else
      some (-r41, sI st42 17 x1 0 ((gI st42 17 x1 0) - ((gI st42 8 0 0) - (gI st39 8 0 0))))
def j_Mo_calls_L225 (RAN : Nat → Int64 → CwS → Option (Int32 × CwS)) (x1 : Nat) (x3 : Int32) (x4 : Int64) (x10 : Nat) (x11 : Nat) (st : CwS) : Option (Int32 × CwS) :=
  ck (isRow st x11) <|
  ck (rAl (Int32.ofNat (gR st 100 (x11 - 1)))) <|
  bS (rNew st ((Int32.ofNat (gR st 100 (x11 - 1))).toNatClampNeg)) fun st31 =>
  ck (isRow st31 x11) <|
  ck (isRow st31 x11) <|
  ck (isRow st31 (gR st 101 2 + 1)) <|
  ck (cpk ((0 : Int32)) ((0 : Int32)) (Int32.ofNat (gR st31 100 (x11 - 1))) (gR st31 100 (x11 - 1)) (gR st31 100 ((gR st 101 2 + 1) - 1))) <|
  j_Mo_calls_L244 RAN x1 x3 x4 x10 (gR st 101 2 + 1) (cL st31 9 (x11 - 1) (((0 : Int32)).toNatClampNeg) 9 ((gR st 101 2 + 1) - 1) (((0 : Int32)).toNatClampNeg) ((Int32.ofNat (gR st31 100 (x11 - 1))).toNatClampNeg))
def j_Mo_calls_L149 (RAN : Nat → Int64 → CwS → Option (Int32 × CwS)) (x1 : Nat) (x3 : Int32) (x4 : Int64) (x6 : Int32) (x7 : Int32) (st : CwS) : Option (Int32 × CwS) :=
  ck (ix (x3 + ((1 : Int32))) 13) <|
  bR (j_Mo_frame x6 (gI st 14 x1 0) x7 ((if (if ((gI st 17 x1 0).toInt64) < (gL st 7 x1 ((x3 + ((1 : Int32))).toNatClampNeg)) then ((gI st 17 x1 0).toInt64) else (gL st 7 x1 ((x3 + ((1 : Int32))).toNatClampNeg))) < ((0 : Int64)) then ((0 : Int64)) else (if ((gI st 17 x1 0).toInt64) < (gL st 7 x1 ((x3 + ((1 : Int32))).toNatClampNeg)) then ((gI st 17 x1 0).toInt64) else (gL st 7 x1 ((x3 + ((1 : Int32))).toNatClampNeg)))).toInt32) st) fun r23 st24 =>
  ck (decide (r23 < gR st24 101 0)) <|
  ck (ix (x3 + ((2 : Int32))) 13) <|
  ck (ix (x3 + ((2 : Int32))) 13) <|
  if (gI st24 21 x1 ((x3 + ((2 : Int32))).toNatClampNeg)) = ((1 : Int32)) then
    j_Mo_calls_L225 RAN x1 x3 x4 r23 (gR st24 50 (16 * x1 + ((x3 + ((2 : Int32))).toNatClampNeg))) st24
  else
    ck (ix (x3 + ((2 : Int32))) 13) <|
    if (gI st24 21 x1 ((x3 + ((2 : Int32))).toNatClampNeg)) = ((2 : Int32)) then
      j_Mo_calls_L225 RAN x1 x3 x4 r23 (gR st24 50 (16 * x1 + ((x3 + ((2 : Int32))).toNatClampNeg))) st24
    else
      j_Mo_calls_L244 RAN x1 x3 x4 r23 0 st24
def j_Mo_calls_L108 (RAN : Nat → Int64 → CwS → Option (Int32 × CwS)) (x1 : Nat) (x3 : Int32) (x4 : Int64) (x6 : Int32) (x7 : Int32) (st : CwS) : Option (Int32 × CwS) :=
  if (gI st 13 0 0) = ((10 : Int32)) then
    some ((10 : Int32), st)
  else
    if x6 = (gI st 14 x1 0) then
      j_Mo_calls_L149 RAN x1 x3 x4 x6 x7 st
    else
      ck (ix x6 8) <|
      if (lg_cmp (gL st 1 0 x6.toNatClampNeg) (((9223372036854775807 : Int64)) - x4)) ≤ ((0 : Int32)) then
        j_Mo_calls_L149 RAN x1 x3 x4 x6 x7 st
      else
        some ((6 : Int32), st)
def j_Mo_calls (RAN : Nat → Int64 → CwS → Option (Int32 × CwS)) (a1 : Nat) (a2 : Int32) (a3 : Int32) (st0 : CwS) : Option (Int32 × CwS) :=
  bR (j_MF_isNumber a1 (a3 + ((1 : Int32))) st0) fun r1 st2 =>
  if r1 = ((0 : Int32)) then
    some ((4 : Int32), st2)
  else
    bR (j_MF_isNumber a1 a3 st2) fun r5 st6 =>
    if r5 = ((0 : Int32)) then
      some ((4 : Int32), st6)
    else
      ck (ix a3 13) <|
      if (lg_cmp (gL st6 7 a1 a3.toNatClampNeg) ((0 : Int64))) < ((0 : Int32)) then
        some ((9 : Int32), st6)
      else
        ck (ix (gI st6 14 a1 0) 8) <|
        if (lg_cmp (gL st6 7 a1 a3.toNatClampNeg) (gL st6 1 0 ((gI st6 14 a1 0).toNatClampNeg))) ≤ ((0 : Int32)) then
          bR (j_Mo_isIn (a2 >>> (((3 : Int32)) &&& 31)) ((0 : Int32)) ((7 : Int32)) st6) fun r13 st14 =>
          if r13 = ((0 : Int32)) then
            some ((12 : Int32), st14)
          else
            if (a2 &&& ((7 : Int32))) < ((6 : Int32)) then
              ck (ix (a2 >>> (((3 : Int32)) &&& 31)) 8) <|
              if (gI st14 3 0 ((a2 >>> (((3 : Int32)) &&& 31)).toNatClampNeg)) = ((0 : Int32)) then
                j_Mo_calls_L108 RAN a1 a3 (gL st6 7 a1 a3.toNatClampNeg) (a2 >>> (((3 : Int32)) &&& 31)) (a2 &&& ((7 : Int32))) st14
              else
                ck (ix (a2 >>> (((3 : Int32)) &&& 31)) 8) <|
                if (gI st14 4 0 ((a2 >>> (((3 : Int32)) &&& 31)).toNatClampNeg)) ≤ ((0 : Int32)) then
                  j_Mo_calls_L108 RAN a1 a3 (gL st6 7 a1 a3.toNatClampNeg) (a2 >>> (((3 : Int32)) &&& 31)) (a2 &&& ((7 : Int32))) st14
                else
                  some ((8 : Int32), st14)
            else
              some ((12 : Int32), st14)
        else
          some ((9 : Int32), st6)
set_option maxHeartbeats 4000000 in
theorem x_Mo_calls_L244 {RAN : Nat → Int64 → CwS → Option (Int32 × CwS)} (hRx : ∀ (f : Nat) (v : Int64) (st : CwS) (r : Int32) (st' : CwS), RAN f v st = some (r, st') → Ext st st') {x1 : Nat} {x3 : Int32} {x4 : Int64} {x10 : Nat} {x12 : Nat} {st : CwS} {r : Int32} {st' : CwS} (h : j_Mo_calls_L244 RAN x1 x3 x4 x10 x12 st = some (r, st')) : Ext st st' := by
  unfold j_Mo_calls_L244 at h
  obtain ⟨-, h⟩ := ck_some h
  obtain ⟨-, h⟩ := ck_some h
  obtain ⟨st39, h40, h⟩ := bV_some h
  refine Ext.trans (a := st) (b := st39) (by have t := x_MF_push h40; exact t) ?_
  obtain ⟨r41, st42, h43, h⟩ := bR_some h
  refine Ext.trans (a := st39) (b := st42) (by have t := hRx _ _ _ _ _ h43; exact t) ?_
  by_cases c44 : r41 = ((100 : Int32))
  · have h := ite_t c44 h
    obtain ⟨st47, h48, h⟩ := bV_some h
    refine Ext.trans (a := st42) (b := st47) (by have t := x_MF_number h48; exact t) ?_
    obtain ⟨-, rfl⟩ := ret2 h; exact (show Ext st47 _ from Ext.refl st47)
  · have h := ite_f c44 h
    by_cases c45 : r41 = ((99 : Int32))
    · have h := ite_t c45 h
      obtain ⟨-, rfl⟩ := ret2 h; exact (show Ext st42 _ from Ext.refl st42)
    · have h := ite_f c45 h
      obtain ⟨-, rfl⟩ := ret2 h; exact (show Ext st42 _ from Ext.refl st42)
set_option maxHeartbeats 4000000 in
theorem x_Mo_calls_L225 {RAN : Nat → Int64 → CwS → Option (Int32 × CwS)} (hRx : ∀ (f : Nat) (v : Int64) (st : CwS) (r : Int32) (st' : CwS), RAN f v st = some (r, st') → Ext st st') {x1 : Nat} {x3 : Int32} {x4 : Int64} {x10 : Nat} {x11 : Nat} {st : CwS} {r : Int32} {st' : CwS} (h : j_Mo_calls_L225 RAN x1 x3 x4 x10 x11 st = some (r, st')) : Ext st st' := by
  unfold j_Mo_calls_L225 at h
  obtain ⟨-, h⟩ := ck_some h
  obtain ⟨-, h⟩ := ck_some h
  obtain ⟨st31, e_st31, h⟩ := bS_some h
  refine Ext.trans (b := st31) (by rw [e_st31]; exact Ext.new _ _) ?_
  obtain ⟨-, h⟩ := ck_some h
  obtain ⟨-, h⟩ := ck_some h
  obtain ⟨-, h⟩ := ck_some h
  obtain ⟨-, h⟩ := ck_some h
  have t := x_Mo_calls_L244 hRx h; exact (show Ext st31 _ from t)
set_option maxHeartbeats 4000000 in
theorem x_Mo_calls_L149 {RAN : Nat → Int64 → CwS → Option (Int32 × CwS)} (hRx : ∀ (f : Nat) (v : Int64) (st : CwS) (r : Int32) (st' : CwS), RAN f v st = some (r, st') → Ext st st') {x1 : Nat} {x3 : Int32} {x4 : Int64} {x6 : Int32} {x7 : Int32} {st : CwS} {r : Int32} {st' : CwS} (h : j_Mo_calls_L149 RAN x1 x3 x4 x6 x7 st = some (r, st')) : Ext st st' := by
  unfold j_Mo_calls_L149 at h
  obtain ⟨-, h⟩ := ck_some h
  obtain ⟨r23, st24, h25, h⟩ := bR_some h
  refine Ext.trans (a := st) (b := st24) (by have t := x_Mo_frame h25; exact t) ?_
  obtain ⟨-, h⟩ := ck_some h
  obtain ⟨-, h⟩ := ck_some h
  obtain ⟨-, h⟩ := ck_some h
  by_cases c28 : (gI st24 21 x1 ((x3 + ((2 : Int32))).toNatClampNeg)) = ((1 : Int32))
  · have h := ite_t c28 h
    have t := x_Mo_calls_L225 hRx h; exact (show Ext st24 _ from t)
  · have h := ite_f c28 h
    obtain ⟨-, h⟩ := ck_some h
    by_cases c50 : (gI st24 21 x1 ((x3 + ((2 : Int32))).toNatClampNeg)) = ((2 : Int32))
    · have h := ite_t c50 h
      have t := x_Mo_calls_L225 hRx h; exact (show Ext st24 _ from t)
    · have h := ite_f c50 h
      have t := x_Mo_calls_L244 hRx h; exact (show Ext st24 _ from t)
set_option maxHeartbeats 4000000 in
theorem x_Mo_calls_L108 {RAN : Nat → Int64 → CwS → Option (Int32 × CwS)} (hRx : ∀ (f : Nat) (v : Int64) (st : CwS) (r : Int32) (st' : CwS), RAN f v st = some (r, st') → Ext st st') {x1 : Nat} {x3 : Int32} {x4 : Int64} {x6 : Int32} {x7 : Int32} {st : CwS} {r : Int32} {st' : CwS} (h : j_Mo_calls_L108 RAN x1 x3 x4 x6 x7 st = some (r, st')) : Ext st st' := by
  unfold j_Mo_calls_L108 at h
  by_cases c20 : (gI st 13 0 0) = ((10 : Int32))
  · have h := ite_t c20 h
    obtain ⟨-, rfl⟩ := ret2 h; exact (show Ext st _ from Ext.refl st)
  · have h := ite_f c20 h
    by_cases c21 : x6 = (gI st 14 x1 0)
    · have h := ite_t c21 h
      have t := x_Mo_calls_L149 hRx h; exact (show Ext st _ from t)
    · have h := ite_f c21 h
      obtain ⟨-, h⟩ := ck_some h
      by_cases c53 : (lg_cmp (gL st 1 0 x6.toNatClampNeg) (((9223372036854775807 : Int64)) - x4)) ≤ ((0 : Int32))
      · have h := ite_t c53 h
        have t := x_Mo_calls_L149 hRx h; exact (show Ext st _ from t)
      · have h := ite_f c53 h
        obtain ⟨-, rfl⟩ := ret2 h; exact (show Ext st _ from Ext.refl st)
set_option maxHeartbeats 4000000 in
theorem x_Mo_calls {RAN : Nat → Int64 → CwS → Option (Int32 × CwS)} (hRx : ∀ (f : Nat) (v : Int64) (st : CwS) (r : Int32) (st' : CwS), RAN f v st = some (r, st') → Ext st st') {a1 : Nat} {a2 : Int32} {a3 : Int32} {st0 : CwS} {r : Int32} {st' : CwS} (h : j_Mo_calls RAN a1 a2 a3 st0 = some (r, st')) : Ext st0 st' := by
  unfold j_Mo_calls at h
  obtain ⟨r1, st2, h3, h⟩ := bR_some h
  refine Ext.trans (a := st0) (b := st2) (by have t := x_MF_isNumber h3; exact t) ?_
  by_cases c4 : r1 = ((0 : Int32))
  · have h := ite_t c4 h
    obtain ⟨-, rfl⟩ := ret2 h; exact (show Ext st2 _ from Ext.refl st2)
  · have h := ite_f c4 h
    obtain ⟨r5, st6, h7, h⟩ := bR_some h
    refine Ext.trans (a := st2) (b := st6) (by have t := x_MF_isNumber h7; exact t) ?_
    by_cases c8 : r5 = ((0 : Int32))
    · have h := ite_t c8 h
      obtain ⟨-, rfl⟩ := ret2 h; exact (show Ext st6 _ from Ext.refl st6)
    · have h := ite_f c8 h
      obtain ⟨-, h⟩ := ck_some h
      by_cases c10 : (lg_cmp (gL st6 7 a1 a3.toNatClampNeg) ((0 : Int64))) < ((0 : Int32))
      · have h := ite_t c10 h
        obtain ⟨-, rfl⟩ := ret2 h; exact (show Ext st6 _ from Ext.refl st6)
      · have h := ite_f c10 h
        obtain ⟨-, h⟩ := ck_some h
        by_cases c12 : (lg_cmp (gL st6 7 a1 a3.toNatClampNeg) (gL st6 1 0 ((gI st6 14 a1 0).toNatClampNeg))) ≤ ((0 : Int32))
        · have h := ite_t c12 h
          obtain ⟨r13, st14, h15, h⟩ := bR_some h
          refine Ext.trans (a := st6) (b := st14) (by have t := x_Mo_isIn h15; exact t) ?_
          by_cases c16 : r13 = ((0 : Int32))
          · have h := ite_t c16 h
            obtain ⟨-, rfl⟩ := ret2 h; exact (show Ext st14 _ from Ext.refl st14)
          · have h := ite_f c16 h
            by_cases c17 : (a2 &&& ((7 : Int32))) < ((6 : Int32))
            · have h := ite_t c17 h
              obtain ⟨-, h⟩ := ck_some h
              by_cases c19 : (gI st14 3 0 ((a2 >>> (((3 : Int32)) &&& 31)).toNatClampNeg)) = ((0 : Int32))
              · have h := ite_t c19 h
                have t := x_Mo_calls_L108 hRx h; exact (show Ext st14 _ from t)
              · have h := ite_f c19 h
                obtain ⟨-, h⟩ := ck_some h
                by_cases c55 : (gI st14 4 0 ((a2 >>> (((3 : Int32)) &&& 31)).toNatClampNeg)) ≤ ((0 : Int32))
                · have h := ite_t c55 h
                  have t := x_Mo_calls_L108 hRx h; exact (show Ext st14 _ from t)
                · have h := ite_f c55 h
                  obtain ⟨-, rfl⟩ := ret2 h; exact (show Ext st14 _ from Ext.refl st14)
            · have h := ite_f c17 h
              obtain ⟨-, rfl⟩ := ret2 h; exact (show Ext st14 _ from Ext.refl st14)
        · have h := ite_f c12 h
          obtain ⟨-, rfl⟩ := ret2 h; exact (show Ext st6 _ from Ext.refl st6)
set_option maxHeartbeats 4000000 in
set_option maxRecDepth 100000 in
theorem c_Mo_calls_L244 {l : Launch} {D : va_G} {A : Nat → Prop} {b0 : Nat} {cA : Nat → ClassId} {RAN : Nat → Int64 → CwS → Option (Int32 × CwS)} {d : Nat} (hRx : ∀ (f : Nat) (v : Int64) (st : CwS) (r : Int32) (st' : CwS), RAN f v st = some (r, st') → Ext st st') (hRc : ∀ (st0 : CwS) (f fa : Nat) (hf : rfF st0 f fa) (v : Int64) (r : Int32) (st' : CwS), RAN f v st0 = some (r, st') → Met l yX9_ran (wv yX9_ran cX9_ran 6 (some .int)) ({ frames := 5 * d + 10, cells := gR st' 101 2 - gR st0 101 2, slots := gR st' 101 3 - gR st0 101 3, locals := 139 * d + 200 }) (va_Pc [.ref b0, .ref fa, .long v] (rfU D A b0 cA st0)) (rfQi D A b0 cA r st') (gR st' 101 2 - gR st0 101 2) (gR st' 101 3 - gR st0 101 3) A) {p : Program} {e : Env} {s : State} {m : MethodId} {args : Array Value} {below : List Frame} {meth : Method} {c : Code} (S : CallFix p m c cX9_calls 15 s args (wv yX9_calls cX9_calls 15 (some .int)) RX9) (hr : meth.sig.returnType = some .int) (hlocks : meth.locks = false) (hK : rfK D cA s) (r : Int32) (st' : CwS) (st0 : CwS) (st : CwS) (x1 : Nat) (fx1 : Nat) (hf_fx1 : rfF st x1 fx1) (x3 : Int32) (x4 : Int64) (x10 : Nat) (fx10 : Nat) (hf_fx10 : rfF st x10 fx10) (x12 : Nat) (H : Heap) (locs : List Loc) (ls : Array Slot) (h : j_Mo_calls_L244 RAN x1 x3 x4 x10 x12 st = some (r, st')) (hO : rfO D A b0 cA s st H locs) (hl : lv_has ls 15 [(0, .ref b0), (1, .ref fx1), (3, .int x3), (4, .long x4), (10, .ref fx10), (12, rq x12)]) (E_st : Ext st0 st) : W p l e ({ frames := 5 * d + 11, cells := gR st' 101 2 - gR st0 101 2, slots := gR st' 101 3 - gR st0 101 3, locals := 139 * d + 225 }) s m args below meth c H locs (gR st 101 2 - gR st0 101 2) (gR st 101 3 - gR st0 101 3) (MQ below (rfQi D A b0 cA r st') args s (gR st' 101 2 - gR st0 101 2) (gR st' 101 3 - gR st0 101 3) A) (F0 m 244 ls []) := by
  obtain ⟨hx, hb, hml, hown, hts⟩ := S
  have hgw := fun (w : Cond) (h : w ∈ gwW) => hts w (List.mem_cons_of_mem _ h)
  have k19 := hgw _ w_efb03767
  have k27 := hgw _ w_84119660
  have k30 := hgw _ w_9377dda0
  have k61 := hgw _ w_b3eed388
  have k64 := hgw _ w_6e237316
  have k67 := hgw _ w_1c4b90a6
  have k97 := hgw _ w_bb1741c6
  have k100 := hgw _ w_36d04f4c
  have k103 := hgw _ w_05e7d7f0
  have k124 := hgw _ w_4df17ecc
  have k156 := hgw _ w_f30ac9b6
  have k160 := hgw _ w_91749c89
  have k162 := hgw _ w_04e9077b
  have k165 := hgw _ w_3c4c2edb
  have k172 := hgw _ w_794b17b8
  unfold j_Mo_calls_L244 at h
  refine lv_aload hx hb dX9_calls_244 (lv_at hl 4 rfl) ?_
  refine lv_aload_n hx hb dX9_calls_246 rfl (lv_at hl 1 rfl) ?_
  refine gf_MF_sorts hx hb hgw iwMF hown hK hO hf_fx1 k100 dX9_calls_247 ?_
  refine lv_iload_n hx hb dX9_calls_250 rfl (lv_at hl 2 rfl) ?_
  refine lv_iconst (v := 2) hx hb dX9_calls_251 (by decide) ?_
  refine lv_iadd hx hb dX9_calls_252 ?_
  obtain ⟨hc36, h⟩ := ck_some h
  refine al_MSorts hx hb hK hO hf_fx1 hc36 dX9_calls_253 ?_
  refine lv_aload_n hx hb dX9_calls_254 rfl (lv_at hl 1 rfl) ?_
  refine gf_MF_n hx hb hgw iwMF hown hK hO hf_fx1 k97 dX9_calls_255 ?_
  refine lv_iload_n hx hb dX9_calls_258 rfl (lv_at hl 2 rfl) ?_
  refine lv_iconst (v := 2) hx hb dX9_calls_259 (by decide) ?_
  refine lv_iadd hx hb dX9_calls_260 ?_
  obtain ⟨hc37, h⟩ := ck_some h
  refine al_MN hx hb hK hO hf_fx1 hc37 dX9_calls_261 ?_
  refine rq_aload hx hb dX9_calls_262 (lv_at hl 5 rfl) ?_
  have y_st39 : Ext st st' := by
    obtain ⟨st39, h40, h⟩ := bV_some h
    refine Ext.trans (a := st) (b := st39) (by have t := x_MF_push h40; exact t) ?_
    obtain ⟨r41, st42, h43, h⟩ := bR_some h
    refine Ext.trans (a := st39) (b := st42) (by have t := hRx _ _ _ _ _ h43; exact t) ?_
    by_cases c44 : r41 = ((100 : Int32))
    · have h := ite_t c44 h
      obtain ⟨st47, h48, h⟩ := bV_some h
      refine Ext.trans (a := st42) (b := st47) (by have t := x_MF_number h48; exact t) ?_
      obtain ⟨-, rfl⟩ := ret2 h; exact (show Ext st47 _ from Ext.refl st47)
    · have h := ite_f c44 h
      by_cases c45 : r41 = ((99 : Int32))
      · have h := ite_t c45 h
        obtain ⟨-, rfl⟩ := ret2 h; exact (show Ext st42 _ from Ext.refl st42)
      · have h := ite_f c45 h
        obtain ⟨-, rfl⟩ := ret2 h; exact (show Ext st42 _ from Ext.refl st42)
  obtain ⟨st39, h40, h⟩ := bV_some h
  have x_st39 : Ext st st39 := by have t := x_MF_push h40; exact t
  refine rf_callv (va_runV (As := [.int (gI st 21 x1 ((x3 + ((2 : Int32))).toNatClampNeg)), .long (gL st 7 x1 ((x3 + ((2 : Int32))).toNatClampNeg)), rq x12]) (rest := []) ⟨hx, hb, hml, hown, hts⟩ (c_MF_push l D A b0 cA st x10 fx10 hf_fx10 (gI st 21 x1 ((x3 + ((2 : Int32))).toNatClampNeg)) (gL st 7 x1 ((x3 + ((2 : Int32))).toNatClampNeg)) x12 st39 h40) (cwV 3 hts (gw_V w_e1c787ee w_e0cb4f46 w_a23f96d7 w_18ea82d2 w_3edceb25) rfl rfl rfl (by decide +kernel) ⟨by show 0 + 1 ≤ 5 * d + 11; omega, by show 8 + (5 + 11) + (0) ≤ 139 * d + 225; omega⟩) (rf_preF hf_fx10 hK hO) rfl rfl hl.1 rfl (lv_room (Nat.le_of_ble_eq_true rfl)) dX9_calls_264 ⟨by have q1 := E_st; have q2 := y_st39; unfold Ext at q1 q2; show (gR st 101 2 - gR st0 101 2) + 0 ≤ gR st' 101 2 - gR st0 101 2; omega, by have q1 := E_st; have q2 := y_st39; unfold Ext at q1 q2; show (gR st 101 3 - gR st0 101 3) + 0 ≤ gR st' 101 3 - gR st0 101 3; omega⟩) hO (fun H locs hO => ?_)
  have hf_fx1 : rfF st39 x1 fx1 := rfF.ext (show rfF st x1 fx1 from hf_fx1) x_st39
  have hf_fx10 : rfF st39 x10 fx10 := rfF.ext (show rfF st x10 fx10 from hf_fx10) x_st39
  have E_st39 : Ext st0 st39 := E_st.trans x_st39
  refine W.widen (k := gR st39 101 2 - gR st0 101 2) (n := gR st39 101 3 - gR st0 101 3) (by have q1 := E_st; have q2 := x_st39; unfold Ext at q1 q2; omega) (by have q1 := E_st; have q2 := x_st39; unfold Ext at q1 q2; omega) ?_
  refine lv_aload_n hx hb dX9_calls_267 rfl (lv_at hl 0 rfl) ?_
  refine gf_Mo_taken hx hb hgw iwMo hown hK hO k64 dX9_calls_268 ?_
  refine lv_istore (lv' := [(13, .int (gI st39 8 0 0)), (0, .ref b0), (1, .ref fx1), (3, .int x3), (4, .long x4), (10, .ref fx10), (12, rq x12)]) hx hb dX9_calls_271 hl (by decide) (by simp [List.filter, rq_cat]) (fun ls hl => ?_)
  refine lv_aload_n hx hb dX9_calls_273 rfl (lv_at hl 1 rfl) ?_
  refine lv_aload hx hb dX9_calls_274 (lv_at hl 5 rfl) ?_
  refine lv_lload hx hb dX9_calls_276 (lv_at hl 4 rfl) ?_
  have y_st42 : Ext st39 st' := by
    obtain ⟨r41, st42, h43, h⟩ := bR_some h
    refine Ext.trans (a := st39) (b := st42) (by have t := hRx _ _ _ _ _ h43; exact t) ?_
    by_cases c44 : r41 = ((100 : Int32))
    · have h := ite_t c44 h
      obtain ⟨st47, h48, h⟩ := bV_some h
      refine Ext.trans (a := st42) (b := st47) (by have t := x_MF_number h48; exact t) ?_
      obtain ⟨-, rfl⟩ := ret2 h; exact (show Ext st47 _ from Ext.refl st47)
    · have h := ite_f c44 h
      by_cases c45 : r41 = ((99 : Int32))
      · have h := ite_t c45 h
        obtain ⟨-, rfl⟩ := ret2 h; exact (show Ext st42 _ from Ext.refl st42)
      · have h := ite_f c45 h
        obtain ⟨-, rfl⟩ := ret2 h; exact (show Ext st42 _ from Ext.refl st42)
  obtain ⟨r41, st42, h43, h⟩ := bR_some h
  have x_st42 : Ext st39 st42 := by have t := hRx _ _ _ _ _ h43; exact t
  have y2_st42 : Ext st42 st' := by
    by_cases c44 : r41 = ((100 : Int32))
    · have h := ite_t c44 h
      obtain ⟨st47, h48, h⟩ := bV_some h
      refine Ext.trans (a := st42) (b := st47) (by have t := x_MF_number h48; exact t) ?_
      obtain ⟨-, rfl⟩ := ret2 h; exact (show Ext st47 _ from Ext.refl st47)
    · have h := ite_f c44 h
      by_cases c45 : r41 = ((99 : Int32))
      · have h := ite_t c45 h
        obtain ⟨-, rfl⟩ := ret2 h; exact (show Ext st42 _ from Ext.refl st42)
      · have h := ite_f c45 h
        obtain ⟨-, rfl⟩ := ret2 h; exact (show Ext st42 _ from Ext.refl st42)
  refine rf_calli (va_runV (As := [.ref fx10, .long x4]) (rest := []) ⟨hx, hb, hml, hown, hts⟩ (hRc st39 x10 fx10 hf_fx10 x4 r41 st42 h43) (cwV 2 hts (gw_V w_9af1e83a w_08df12e9 w_4c2aadfc w_18f41a94 w_e2b6d88b) rfl rfl rfl (by decide +kernel) ⟨by show (5 * d + 10) + 1 ≤ 5 * d + 11; omega, by show 8 + (6 + 11) + (139 * d + 200) ≤ 139 * d + 225; omega⟩) (rf_preM hK hO) rfl rfl hl.1 rfl (lv_room (Nat.le_of_ble_eq_true rfl)) dX9_calls_278 ⟨by have q1 := E_st39; have q2 := x_st42; have q3 := y2_st42; unfold Ext at q1 q2 q3; show (gR st39 101 2 - gR st0 101 2) + (gR st42 101 2 - gR st39 101 2) ≤ gR st' 101 2 - gR st0 101 2; omega, by have q1 := E_st39; have q2 := x_st42; have q3 := y2_st42; unfold Ext at q1 q2 q3; show (gR st39 101 3 - gR st0 101 3) + (gR st42 101 3 - gR st39 101 3) ≤ gR st' 101 3 - gR st0 101 3; omega⟩) hO (fun H locs hO => ?_)
  have hf_fx1 : rfF st42 x1 fx1 := rfF.ext (show rfF st39 x1 fx1 from hf_fx1) x_st42
  have hf_fx10 : rfF st42 x10 fx10 := rfF.ext (show rfF st39 x10 fx10 from hf_fx10) x_st42
  have E_st42 : Ext st0 st42 := E_st39.trans x_st42
  refine W.widen (k := gR st42 101 2 - gR st0 101 2) (n := gR st42 101 3 - gR st0 101 3) (by have q1 := E_st39; have q2 := x_st42; unfold Ext at q1 q2; omega) (by have q1 := E_st39; have q2 := x_st42; unfold Ext at q1 q2; omega) ?_
  refine lv_istore (lv' := [(14, .int r41), (13, .int (gI st39 8 0 0)), (0, .ref b0), (1, .ref fx1), (3, .int x3), (4, .long x4), (10, .ref fx10), (12, rq x12)]) hx hb dX9_calls_281 hl (by decide) rfl (fun ls hl => ?_)
  refine lv_aload_n hx hb dX9_calls_283 rfl (lv_at hl 3 rfl) ?_
  refine lv_dup hx hb dX9_calls_284 rfl ?_
  refine gf_MF_limit hx hb hgw iwMF hown hK hO hf_fx1 k61 dX9_calls_285 ?_
  refine lv_aload_n hx hb dX9_calls_288 rfl (lv_at hl 2 rfl) ?_
  refine gf_Mo_taken hx hb hgw iwMo hown hK hO k64 dX9_calls_289 ?_
  refine lv_iload hx hb dX9_calls_292 (lv_at hl 1 rfl) ?_
  refine lv_isub hx hb dX9_calls_294 ?_
  refine lv_isub hx hb dX9_calls_295 ?_
  refine pf_MF_limit hx hb hgw iwMF hown hK hO hf_fx1 k61 dX9_calls_296 (fun H locs hO => ?_)
  refine lv_iload hx hb dX9_calls_299 (lv_at hl 0 rfl) ?_
  refine lv_bipush (v := 100) hx hb dX9_calls_301 (by decide) ?_
  refine lv_icmp_ne (tgt := 317) hx hb dX9_calls_303 (by decide) (fun c44 => ?_) (fun c44 => ?_)
  · have h := ite_f c44 h
    refine lv_iload hx hb dX9_calls_317 (lv_at hl 0 rfl) ?_
    refine lv_bipush (v := 99) hx hb dX9_calls_319 (by decide) ?_
    refine lv_icmp_ne (tgt := 329) hx hb dX9_calls_321 (by decide) (fun c45 => ?_) (fun c45 => ?_)
    · have h := ite_f c45 h
      refine lv_iload hx hb dX9_calls_329 (lv_at hl 0 rfl) ?_
      refine lv_ineg hx hb dX9_calls_331 ?_
      obtain ⟨rfl, rfl⟩ := ret2 h; exact rf_iret hx hb hr hlocks hO dX9_calls_332
    · have h := ite_t c45 h
      refine lv_bipush (v := 99) hx hb dX9_calls_324 (by decide) ?_
      refine lv_goto (tgt := 332) hx hb dX9_calls_326 (by decide) ?_
      obtain ⟨rfl, rfl⟩ := ret2 h; exact rf_iret hx hb hr hlocks hO dX9_calls_332
  · have h := ite_t c44 h
    refine lv_aload_n hx hb dX9_calls_306 rfl (lv_at hl 3 rfl) ?_
    refine lv_aload hx hb dX9_calls_307 (lv_at hl 6 rfl) ?_
    refine gf_MF_gives hx hb hgw iwMF hown hK hO hf_fx10 k124 dX9_calls_309 ?_
    have y_st47 : Ext st42 st' := by
      obtain ⟨st47, h48, h⟩ := bV_some h
      refine Ext.trans (a := st42) (b := st47) (by have t := x_MF_number h48; exact t) ?_
      obtain ⟨-, rfl⟩ := ret2 h; exact (show Ext st47 _ from Ext.refl st47)
    obtain ⟨st47, h48, h⟩ := bV_some h
    have x_st47 : Ext st42 st47 := by have t := x_MF_number h48; exact t
    refine rf_callv (va_runV (As := [.long (gL (sI st42 17 x1 0 ((gI st42 17 x1 0) - ((gI st42 8 0 0) - (gI st39 8 0 0)))) 4 x10 0)]) (rest := []) ⟨hx, hb, hml, hown, hts⟩ (c_MF_number l D A b0 cA (sI st42 17 x1 0 ((gI st42 17 x1 0) - ((gI st42 8 0 0) - (gI st39 8 0 0)))) x1 fx1 hf_fx1 (gL (sI st42 17 x1 0 ((gI st42 17 x1 0) - ((gI st42 8 0 0) - (gI st39 8 0 0)))) 4 x10 0) st47 h48) (cwV 1 hts (gw_V w_a50611e6 w_8ebaf0f1 w_dd21e4d3 w_18ea82d2 w_54e1986d) rfl rfl rfl (by decide +kernel) ⟨by show 1 + 1 ≤ 5 * d + 11; omega, by show 8 + (3 + 11) + (24) ≤ 139 * d + 225; omega⟩) (rf_preF hf_fx1 hK hO) rfl rfl hl.1 rfl (lv_room (Nat.le_of_ble_eq_true rfl)) dX9_calls_312 ⟨by have q1 := E_st42; have q2 := y_st47; unfold Ext at q1 q2; show (gR st42 101 2 - gR st0 101 2) + 0 ≤ gR st' 101 2 - gR st0 101 2; omega, by have q1 := E_st42; have q2 := y_st47; unfold Ext at q1 q2; show (gR st42 101 3 - gR st0 101 3) + 0 ≤ gR st' 101 3 - gR st0 101 3; omega⟩) hO (fun H locs hO => ?_)
    have hf_fx1 : rfF st47 x1 fx1 := rfF.ext (show rfF st42 x1 fx1 from hf_fx1) x_st47
    have hf_fx10 : rfF st47 x10 fx10 := rfF.ext (show rfF st42 x10 fx10 from hf_fx10) x_st47
    have E_st47 : Ext st0 st47 := E_st42.trans x_st47
    refine W.widen (k := gR st47 101 2 - gR st0 101 2) (n := gR st47 101 3 - gR st0 101 3) (by have q1 := E_st42; have q2 := x_st47; unfold Ext at q1 q2; omega) (by have q1 := E_st42; have q2 := x_st47; unfold Ext at q1 q2; omega) ?_
    refine lv_iconst (v := 0) hx hb dX9_calls_315 (by decide) ?_
    obtain ⟨rfl, rfl⟩ := ret2 h; exact rf_iret hx hb hr hlocks hO dX9_calls_316
set_option maxHeartbeats 4000000 in
set_option maxRecDepth 100000 in
theorem c_Mo_calls_L225 {l : Launch} {D : va_G} {A : Nat → Prop} {b0 : Nat} {cA : Nat → ClassId} {RAN : Nat → Int64 → CwS → Option (Int32 × CwS)} {d : Nat} (hRx : ∀ (f : Nat) (v : Int64) (st : CwS) (r : Int32) (st' : CwS), RAN f v st = some (r, st') → Ext st st') (hRc : ∀ (st0 : CwS) (f fa : Nat) (hf : rfF st0 f fa) (v : Int64) (r : Int32) (st' : CwS), RAN f v st0 = some (r, st') → Met l yX9_ran (wv yX9_ran cX9_ran 6 (some .int)) ({ frames := 5 * d + 10, cells := gR st' 101 2 - gR st0 101 2, slots := gR st' 101 3 - gR st0 101 3, locals := 139 * d + 200 }) (va_Pc [.ref b0, .ref fa, .long v] (rfU D A b0 cA st0)) (rfQi D A b0 cA r st') (gR st' 101 2 - gR st0 101 2) (gR st' 101 3 - gR st0 101 3) A) {p : Program} {e : Env} {s : State} {m : MethodId} {args : Array Value} {below : List Frame} {meth : Method} {c : Code} (S : CallFix p m c cX9_calls 15 s args (wv yX9_calls cX9_calls 15 (some .int)) RX9) (hr : meth.sig.returnType = some .int) (hlocks : meth.locks = false) (hK : rfK D cA s) (r : Int32) (st' : CwS) (st0 : CwS) (st : CwS) (x1 : Nat) (fx1 : Nat) (hf_fx1 : rfF st x1 fx1) (x3 : Int32) (x4 : Int64) (x10 : Nat) (fx10 : Nat) (hf_fx10 : rfF st x10 fx10) (x11 : Nat) (H : Heap) (locs : List Loc) (ls : Array Slot) (h : j_Mo_calls_L225 RAN x1 x3 x4 x10 x11 st = some (r, st')) (hO : rfO D A b0 cA s st H locs) (hl : lv_has ls 15 [(0, .ref b0), (1, .ref fx1), (3, .int x3), (4, .long x4), (10, .ref fx10), (11, rq x11)]) (E_st : Ext st0 st) : W p l e ({ frames := 5 * d + 11, cells := gR st' 101 2 - gR st0 101 2, slots := gR st' 101 3 - gR st0 101 3, locals := 139 * d + 225 }) s m args below meth c H locs (gR st 101 2 - gR st0 101 2) (gR st 101 3 - gR st0 101 3) (MQ below (rfQi D A b0 cA r st') args s (gR st' 101 2 - gR st0 101 2) (gR st' 101 3 - gR st0 101 3) A) (F0 m 225 ls []) := by
  obtain ⟨hx, hb, hml, hown, hts⟩ := S
  have hgw := fun (w : Cond) (h : w ∈ gwW) => hts w (List.mem_cons_of_mem _ h)
  have k19 := hgw _ w_efb03767
  have k27 := hgw _ w_84119660
  have k30 := hgw _ w_9377dda0
  have k61 := hgw _ w_b3eed388
  have k64 := hgw _ w_6e237316
  have k67 := hgw _ w_1c4b90a6
  have k97 := hgw _ w_bb1741c6
  have k100 := hgw _ w_36d04f4c
  have k103 := hgw _ w_05e7d7f0
  have k124 := hgw _ w_4df17ecc
  have k156 := hgw _ w_f30ac9b6
  have k160 := hgw _ w_91749c89
  have k162 := hgw _ w_04e9077b
  have k165 := hgw _ w_3c4c2edb
  have k172 := hgw _ w_794b17b8
  unfold j_Mo_calls_L225 at h
  refine rq_aload hx hb dX9_calls_225 (lv_at hl 5 rfl) ?_
  obtain ⟨hc29, h⟩ := ck_some h
  refine an_Row hx hb hK hO hc29 dX9_calls_227 ?_
  obtain ⟨hc30, h⟩ := ck_some h
  obtain ⟨st31, e_st31, h⟩ := bS_some h
  have x_st31 : Ext st st31 := by rw [e_st31]; exact Ext.new _ _
  have y_st31 : Ext st31 st' := by
    obtain ⟨-, h⟩ := ck_some h
    obtain ⟨-, h⟩ := ck_some h
    obtain ⟨-, h⟩ := ck_some h
    obtain ⟨-, h⟩ := ck_some h
    have t := x_Mo_calls_L244 hRx h; exact (show Ext st31 _ from t)
  have z_st31 : gR st31 101 2 = gR st 101 2 + 1 := by rw [e_st31]; rfl
  have w_st31 : gR st31 101 3 = gR st 101 3 + (Int32.ofNat (gR st 100 (x11 - 1))).toNatClampNeg := by rw [e_st31]; rfl
  refine rf_new hx hb (hgw _ w_f2af499d) hK hO hc30 e_st31 (by have q1 := E_st; have q2 := y_st31; unfold Ext at q1 q2; show (gR st 101 2 - gR st0 101 2) + 1 ≤ gR st' 101 2 - gR st0 101 2; omega) (by have q1 := E_st; have q2 := y_st31; unfold Ext at q1 q2; show (gR st 101 3 - gR st0 101 3) + (Int32.ofNat (gR st 100 (x11 - 1))).toNatClampNeg ≤ gR st' 101 3 - gR st0 101 3; omega) dX9_calls_228 (fun H hO => ?_)
  have E_st31 : Ext st0 st31 := E_st.trans x_st31
  have hf_fx1 := hf_fx1.ext x_st31
  have hf_fx10 := hf_fx10.ext x_st31
  refine W.widen (k := gR st31 101 2 - gR st0 101 2) (n := gR st31 101 3 - gR st0 101 3) (by have q1 := E_st; have q2 := y_st31; unfold Ext at q1 q2; omega) (by have q1 := E_st; have q2 := y_st31; unfold Ext at q1 q2; omega) ?_
  refine rq_astore (r := gR st 101 2 + 1) (lv' := [(12, rq (gR st 101 2 + 1)), (0, .ref b0), (1, .ref fx1), (3, .int x3), (4, .long x4), (10, .ref fx10), (11, rq x11)]) hx hb dX9_calls_230 hl (by decide) (by simp [List.filter, rq_cat]) (fun ls hl => ?_)
  refine rq_aload hx hb dX9_calls_232 (lv_at hl 6 rfl) ?_
  refine lv_iconst (v := 0) hx hb dX9_calls_234 (by decide) ?_
  refine rq_aload hx hb dX9_calls_235 (lv_at hl 0 rfl) ?_
  refine lv_iconst (v := 0) hx hb dX9_calls_237 (by decide) ?_
  refine rq_aload hx hb dX9_calls_238 (lv_at hl 6 rfl) ?_
  obtain ⟨hc32, h⟩ := ck_some h
  refine an_Row hx hb hK hO hc32 dX9_calls_240 ?_
  obtain ⟨hc34, h⟩ := ck_some h
  obtain ⟨hc35, h⟩ := ck_some h
  obtain ⟨hc33, h⟩ := ck_some h
  refine ac_Row_Row hx hb (by rw [hml]; exact hl.1.symm) hown k172 (hgw _ w_a648c8f7) (hgw _ w_410d49e2) (hgw _ w_4260ffab) hK hO hc34 hc35 hc33 (by show 1 ≤ 5 * d + 11; omega) (Nat.le_trans (Nat.le_of_ble_eq_true rfl : _ ≤ 40) (by show 40 ≤ 139 * d + 225; omega)) dX9_calls_241 (fun H locs hO => ?_)
  exact c_Mo_calls_L244 hRx hRc ⟨hx, hb, hml, hown, hts⟩ hr hlocks hK r st' st0 (cL st31 9 (x11 - 1) (((0 : Int32)).toNatClampNeg) 9 ((gR st 101 2 + 1) - 1) (((0 : Int32)).toNatClampNeg) ((Int32.ofNat (gR st31 100 (x11 - 1))).toNatClampNeg)) x1 fx1 hf_fx1 x3 x4 x10 fx10 hf_fx10 (gR st 101 2 + 1) _ _ _ h hO (lv_sub hl [1, 2, 3, 4, 5, 0] rfl) (show Ext st0 _ from E_st31)
set_option maxHeartbeats 4000000 in
set_option maxRecDepth 100000 in
theorem c_Mo_calls_L149 {l : Launch} {D : va_G} {A : Nat → Prop} {b0 : Nat} {cA : Nat → ClassId} {RAN : Nat → Int64 → CwS → Option (Int32 × CwS)} {d : Nat} (hRx : ∀ (f : Nat) (v : Int64) (st : CwS) (r : Int32) (st' : CwS), RAN f v st = some (r, st') → Ext st st') (hRc : ∀ (st0 : CwS) (f fa : Nat) (hf : rfF st0 f fa) (v : Int64) (r : Int32) (st' : CwS), RAN f v st0 = some (r, st') → Met l yX9_ran (wv yX9_ran cX9_ran 6 (some .int)) ({ frames := 5 * d + 10, cells := gR st' 101 2 - gR st0 101 2, slots := gR st' 101 3 - gR st0 101 3, locals := 139 * d + 200 }) (va_Pc [.ref b0, .ref fa, .long v] (rfU D A b0 cA st0)) (rfQi D A b0 cA r st') (gR st' 101 2 - gR st0 101 2) (gR st' 101 3 - gR st0 101 3) A) {p : Program} {e : Env} {s : State} {m : MethodId} {args : Array Value} {below : List Frame} {meth : Method} {c : Code} (S : CallFix p m c cX9_calls 15 s args (wv yX9_calls cX9_calls 15 (some .int)) RX9) (hr : meth.sig.returnType = some .int) (hlocks : meth.locks = false) (hK : rfK D cA s) (r : Int32) (st' : CwS) (st0 : CwS) (st : CwS) (x1 : Nat) (fx1 : Nat) (hf_fx1 : rfF st x1 fx1) (x3 : Int32) (x4 : Int64) (x6 : Int32) (x7 : Int32) (H : Heap) (locs : List Loc) (ls : Array Slot) (h : j_Mo_calls_L149 RAN x1 x3 x4 x6 x7 st = some (r, st')) (hO : rfO D A b0 cA s st H locs) (hl : lv_has ls 15 [(0, .ref b0), (1, .ref fx1), (3, .int x3), (4, .long x4), (6, .int x6), (7, .int x7)]) (E_st : Ext st0 st) : W p l e ({ frames := 5 * d + 11, cells := gR st' 101 2 - gR st0 101 2, slots := gR st' 101 3 - gR st0 101 3, locals := 139 * d + 225 }) s m args below meth c H locs (gR st 101 2 - gR st0 101 2) (gR st 101 3 - gR st0 101 3) (MQ below (rfQi D A b0 cA r st') args s (gR st' 101 2 - gR st0 101 2) (gR st' 101 3 - gR st0 101 3) A) (F0 m 149 ls []) := by
  obtain ⟨hx, hb, hml, hown, hts⟩ := S
  have hgw := fun (w : Cond) (h : w ∈ gwW) => hts w (List.mem_cons_of_mem _ h)
  have k19 := hgw _ w_efb03767
  have k27 := hgw _ w_84119660
  have k30 := hgw _ w_9377dda0
  have k61 := hgw _ w_b3eed388
  have k64 := hgw _ w_6e237316
  have k67 := hgw _ w_1c4b90a6
  have k97 := hgw _ w_bb1741c6
  have k100 := hgw _ w_36d04f4c
  have k103 := hgw _ w_05e7d7f0
  have k124 := hgw _ w_4df17ecc
  have k156 := hgw _ w_f30ac9b6
  have k160 := hgw _ w_91749c89
  have k162 := hgw _ w_04e9077b
  have k165 := hgw _ w_3c4c2edb
  have k172 := hgw _ w_794b17b8
  unfold j_Mo_calls_L149 at h
  refine lv_lconst (v := 0) hx hb dX9_calls_149 (by decide) ?_
  refine lv_aload_n hx hb dX9_calls_150 rfl (lv_at hl 1 rfl) ?_
  refine gf_MF_n hx hb hgw iwMF hown hK hO hf_fx1 k97 dX9_calls_151 ?_
  refine lv_iload_n hx hb dX9_calls_154 rfl (lv_at hl 2 rfl) ?_
  refine lv_iconst (v := 1) hx hb dX9_calls_155 (by decide) ?_
  refine lv_iadd hx hb dX9_calls_156 ?_
  obtain ⟨hc22, h⟩ := ck_some h
  refine al_MN hx hb hK hO hf_fx1 hc22 dX9_calls_157 ?_
  refine lv_aload_n hx hb dX9_calls_158 rfl (lv_at hl 1 rfl) ?_
  refine gf_MF_limit hx hb hgw iwMF hown hK hO hf_fx1 k61 dX9_calls_159 ?_
  refine lv_i2l hx hb dX9_calls_162 rfl ?_
  have ymm56 : Ext st st' := by
    obtain ⟨r23, st24, h25, h⟩ := bR_some h
    refine Ext.trans (a := st) (b := st24) (by have t := x_Mo_frame h25; exact t) ?_
    obtain ⟨-, h⟩ := ck_some h
    obtain ⟨-, h⟩ := ck_some h
    obtain ⟨-, h⟩ := ck_some h
    by_cases c28 : (gI st24 21 x1 ((x3 + ((2 : Int32))).toNatClampNeg)) = ((1 : Int32))
    · have h := ite_t c28 h
      have t := x_Mo_calls_L225 hRx h; exact (show Ext st24 _ from t)
    · have h := ite_f c28 h
      obtain ⟨-, h⟩ := ck_some h
      by_cases c50 : (gI st24 21 x1 ((x3 + ((2 : Int32))).toNatClampNeg)) = ((2 : Int32))
      · have h := ite_t c50 h
        have t := x_Mo_calls_L225 hRx h; exact (show Ext st24 _ from t)
      · have h := ite_f c50 h
        have t := x_Mo_calls_L244 hRx h; exact (show Ext st24 _ from t)
  refine va_mmin_long hx hb (by rw [hml]; exact hl.1.symm) hown k162 (hgw _ w_07670a37) (hgw _ w_868a9286) (hgw _ w_c0acf8a6) (by show 1 ≤ 5 * d + 11; omega) (Nat.le_trans (Nat.le_of_ble_eq_true rfl : _ ≤ 40) (by show 40 ≤ 139 * d + 225; omega)) (by have q1 := E_st; have q2 := ymm56; unfold Ext at q1 q2; show gR st 101 2 - gR st0 101 2 ≤ gR st' 101 2 - gR st0 101 2; omega) (by have q1 := E_st; have q2 := ymm56; unfold Ext at q1 q2; show gR st 101 3 - gR st0 101 3 ≤ gR st' 101 3 - gR st0 101 3; omega) dX9_calls_163 ?_
  have ymm57 : Ext st st' := by
    obtain ⟨r23, st24, h25, h⟩ := bR_some h
    refine Ext.trans (a := st) (b := st24) (by have t := x_Mo_frame h25; exact t) ?_
    obtain ⟨-, h⟩ := ck_some h
    obtain ⟨-, h⟩ := ck_some h
    obtain ⟨-, h⟩ := ck_some h
    by_cases c28 : (gI st24 21 x1 ((x3 + ((2 : Int32))).toNatClampNeg)) = ((1 : Int32))
    · have h := ite_t c28 h
      have t := x_Mo_calls_L225 hRx h; exact (show Ext st24 _ from t)
    · have h := ite_f c28 h
      obtain ⟨-, h⟩ := ck_some h
      by_cases c50 : (gI st24 21 x1 ((x3 + ((2 : Int32))).toNatClampNeg)) = ((2 : Int32))
      · have h := ite_t c50 h
        have t := x_Mo_calls_L225 hRx h; exact (show Ext st24 _ from t)
      · have h := ite_f c50 h
        have t := x_Mo_calls_L244 hRx h; exact (show Ext st24 _ from t)
  refine va_mmax_long hx hb (by rw [hml]; exact hl.1.symm) hown k165 (hgw _ w_8f24d854) (hgw _ w_868a9286) (hgw _ w_ada86a80) (by show 1 ≤ 5 * d + 11; omega) (Nat.le_trans (Nat.le_of_ble_eq_true rfl : _ ≤ 40) (by show 40 ≤ 139 * d + 225; omega)) (by have q1 := E_st; have q2 := ymm57; unfold Ext at q1 q2; show gR st 101 2 - gR st0 101 2 ≤ gR st' 101 2 - gR st0 101 2; omega) (by have q1 := E_st; have q2 := ymm57; unfold Ext at q1 q2; show gR st 101 3 - gR st0 101 3 ≤ gR st' 101 3 - gR st0 101 3; omega) dX9_calls_166 ?_
  refine lv_lstore (lv' := [(8, .long (if (if ((gI st 17 x1 0).toInt64) < (gL st 7 x1 ((x3 + ((1 : Int32))).toNatClampNeg)) then ((gI st 17 x1 0).toInt64) else (gL st 7 x1 ((x3 + ((1 : Int32))).toNatClampNeg))) < ((0 : Int64)) then ((0 : Int64)) else (if ((gI st 17 x1 0).toInt64) < (gL st 7 x1 ((x3 + ((1 : Int32))).toNatClampNeg)) then ((gI st 17 x1 0).toInt64) else (gL st 7 x1 ((x3 + ((1 : Int32))).toNatClampNeg))))), (0, .ref b0), (1, .ref fx1), (3, .int x3), (4, .long x4), (6, .int x6), (7, .int x7)]) hx hb dX9_calls_169 hl (by decide) rfl (fun ls hl => ?_)
  refine lv_aload_n hx hb dX9_calls_171 rfl (lv_at hl 1 rfl) ?_
  refine lv_iload hx hb dX9_calls_172 (lv_at hl 5 rfl) ?_
  refine lv_aload_n hx hb dX9_calls_174 rfl (lv_at hl 2 rfl) ?_
  refine gf_MF_contract hx hb hgw iwMF hown hK hO hf_fx1 k67 dX9_calls_175 ?_
  refine lv_iload hx hb dX9_calls_178 (lv_at hl 6 rfl) ?_
  refine lv_lload hx hb dX9_calls_180 (lv_at hl 0 rfl) ?_
  refine lv_l2i hx hb dX9_calls_182 rfl ?_
  have y_st24 : Ext st st' := by
    obtain ⟨r23, st24, h25, h⟩ := bR_some h
    refine Ext.trans (a := st) (b := st24) (by have t := x_Mo_frame h25; exact t) ?_
    obtain ⟨-, h⟩ := ck_some h
    obtain ⟨-, h⟩ := ck_some h
    obtain ⟨-, h⟩ := ck_some h
    by_cases c28 : (gI st24 21 x1 ((x3 + ((2 : Int32))).toNatClampNeg)) = ((1 : Int32))
    · have h := ite_t c28 h
      have t := x_Mo_calls_L225 hRx h; exact (show Ext st24 _ from t)
    · have h := ite_f c28 h
      obtain ⟨-, h⟩ := ck_some h
      by_cases c50 : (gI st24 21 x1 ((x3 + ((2 : Int32))).toNatClampNeg)) = ((2 : Int32))
      · have h := ite_t c50 h
        have t := x_Mo_calls_L225 hRx h; exact (show Ext st24 _ from t)
      · have h := ite_f c50 h
        have t := x_Mo_calls_L244 hRx h; exact (show Ext st24 _ from t)
  obtain ⟨r23, st24, h25, h⟩ := bR_some h
  have x_st24 : Ext st st24 := by have t := x_Mo_frame h25; exact t
  obtain ⟨hc51, h⟩ := ck_some h
  have y2_st24 : Ext st24 st' := by
    obtain ⟨-, h⟩ := ck_some h
    obtain ⟨-, h⟩ := ck_some h
    by_cases c28 : (gI st24 21 x1 ((x3 + ((2 : Int32))).toNatClampNeg)) = ((1 : Int32))
    · have h := ite_t c28 h
      have t := x_Mo_calls_L225 hRx h; exact (show Ext st24 _ from t)
    · have h := ite_f c28 h
      obtain ⟨-, h⟩ := ck_some h
      by_cases c50 : (gI st24 21 x1 ((x3 + ((2 : Int32))).toNatClampNeg)) = ((2 : Int32))
      · have h := ite_t c50 h
        have t := x_Mo_calls_L225 hRx h; exact (show Ext st24 _ from t)
      · have h := ite_f c50 h
        have t := x_Mo_calls_L244 hRx h; exact (show Ext st24 _ from t)
  refine rf_callr (va_runV (As := [.int x6, .int (gI st 14 x1 0), .int x7, .int ((if (if ((gI st 17 x1 0).toInt64) < (gL st 7 x1 ((x3 + ((1 : Int32))).toNatClampNeg)) then ((gI st 17 x1 0).toInt64) else (gL st 7 x1 ((x3 + ((1 : Int32))).toNatClampNeg))) < ((0 : Int64)) then ((0 : Int64)) else (if ((gI st 17 x1 0).toInt64) < (gL st 7 x1 ((x3 + ((1 : Int32))).toNatClampNeg)) then ((gI st 17 x1 0).toInt64) else (gL st 7 x1 ((x3 + ((1 : Int32))).toNatClampNeg)))).toInt32)]) (rest := []) ⟨hx, hb, hml, hown, hts⟩ (c_Mo_frame l D A b0 cA st x6 (gI st 14 x1 0) x7 ((if (if ((gI st 17 x1 0).toInt64) < (gL st 7 x1 ((x3 + ((1 : Int32))).toNatClampNeg)) then ((gI st 17 x1 0).toInt64) else (gL st 7 x1 ((x3 + ((1 : Int32))).toNatClampNeg))) < ((0 : Int64)) then ((0 : Int64)) else (if ((gI st 17 x1 0).toInt64) < (gL st 7 x1 ((x3 + ((1 : Int32))).toNatClampNeg)) then ((gI st 17 x1 0).toInt64) else (gL st 7 x1 ((x3 + ((1 : Int32))).toNatClampNeg)))).toInt32) r23 st24 h25) (cwV 4 hts (gw_V w_69f9da88 w_79042909 w_ec1f1e80 w_18f41a94 w_93cd893c) rfl rfl rfl (by decide +kernel) ⟨by show 3 + 1 ≤ 5 * d + 11; omega, by show 8 + (5 + 11) + (80) ≤ 139 * d + 225; omega⟩) (rf_preM hK hO) rfl rfl hl.1 rfl (lv_room (Nat.le_of_ble_eq_true rfl)) dX9_calls_183 ⟨by have q1 := E_st; have q2 := x_st24; have q3 := y2_st24; unfold Ext at q1 q2 q3; show (gR st 101 2 - gR st0 101 2) + (gR st24 101 2 - gR st 101 2) ≤ gR st' 101 2 - gR st0 101 2; omega, by have q1 := E_st; have q2 := x_st24; have q3 := y2_st24; unfold Ext at q1 q2 q3; show (gR st 101 3 - gR st0 101 3) + (gR st24 101 3 - gR st 101 3) ≤ gR st' 101 3 - gR st0 101 3; omega⟩) hO (fun fr23 H locs hfr_r23 hO => ?_)
  have hf_fr23 : rfF st24 r23 fr23 := ⟨ck_lt hc51, hfr_r23⟩
  have hf_fx1 : rfF st24 x1 fx1 := rfF.ext (show rfF st x1 fx1 from hf_fx1) x_st24
  have E_st24 : Ext st0 st24 := E_st.trans x_st24
  refine W.widen (k := gR st24 101 2 - gR st0 101 2) (n := gR st24 101 3 - gR st0 101 3) (by have q1 := E_st; have q2 := x_st24; unfold Ext at q1 q2; omega) (by have q1 := E_st; have q2 := x_st24; unfold Ext at q1 q2; omega) ?_
  refine lv_astore (lv' := [(10, .ref fr23), (8, .long (if (if ((gI st 17 x1 0).toInt64) < (gL st 7 x1 ((x3 + ((1 : Int32))).toNatClampNeg)) then ((gI st 17 x1 0).toInt64) else (gL st 7 x1 ((x3 + ((1 : Int32))).toNatClampNeg))) < ((0 : Int64)) then ((0 : Int64)) else (if ((gI st 17 x1 0).toInt64) < (gL st 7 x1 ((x3 + ((1 : Int32))).toNatClampNeg)) then ((gI st 17 x1 0).toInt64) else (gL st 7 x1 ((x3 + ((1 : Int32))).toNatClampNeg))))), (0, .ref b0), (1, .ref fx1), (3, .int x3), (4, .long x4), (6, .int x6), (7, .int x7)]) hx hb dX9_calls_186 hl (by decide) rfl (fun ls hl => ?_)
  refine lv_aload_n hx hb dX9_calls_188 rfl (lv_at hl 3 rfl) ?_
  refine gf_MF_rows hx hb hgw iwMF hown hK hO hf_fx1 k103 dX9_calls_189 ?_
  refine lv_iload_n hx hb dX9_calls_192 rfl (lv_at hl 4 rfl) ?_
  refine lv_iconst (v := 2) hx hb dX9_calls_193 (by decide) ?_
  refine lv_iadd hx hb dX9_calls_194 ?_
  obtain ⟨hc26, h⟩ := ck_some h
  refine al_MRows hx hb hK hO hf_fx1 hc26 dX9_calls_195 ?_
  refine rq_astore (r := gR st24 50 (16 * x1 + ((x3 + ((2 : Int32))).toNatClampNeg))) (lv' := [(11, rq (gR st24 50 (16 * x1 + ((x3 + ((2 : Int32))).toNatClampNeg)))), (10, .ref fr23), (8, .long (if (if ((gI st 17 x1 0).toInt64) < (gL st 7 x1 ((x3 + ((1 : Int32))).toNatClampNeg)) then ((gI st 17 x1 0).toInt64) else (gL st 7 x1 ((x3 + ((1 : Int32))).toNatClampNeg))) < ((0 : Int64)) then ((0 : Int64)) else (if ((gI st 17 x1 0).toInt64) < (gL st 7 x1 ((x3 + ((1 : Int32))).toNatClampNeg)) then ((gI st 17 x1 0).toInt64) else (gL st 7 x1 ((x3 + ((1 : Int32))).toNatClampNeg))))), (0, .ref b0), (1, .ref fx1), (3, .int x3), (4, .long x4), (6, .int x6), (7, .int x7)]) hx hb dX9_calls_196 hl (by decide) rfl (fun ls hl => ?_)
  refine lv_null hx hb dX9_calls_198 ?_
  refine rq_astore (r := 0) (lv' := [(12, rq 0), (11, rq (gR st24 50 (16 * x1 + ((x3 + ((2 : Int32))).toNatClampNeg)))), (10, .ref fr23), (8, .long (if (if ((gI st 17 x1 0).toInt64) < (gL st 7 x1 ((x3 + ((1 : Int32))).toNatClampNeg)) then ((gI st 17 x1 0).toInt64) else (gL st 7 x1 ((x3 + ((1 : Int32))).toNatClampNeg))) < ((0 : Int64)) then ((0 : Int64)) else (if ((gI st 17 x1 0).toInt64) < (gL st 7 x1 ((x3 + ((1 : Int32))).toNatClampNeg)) then ((gI st 17 x1 0).toInt64) else (gL st 7 x1 ((x3 + ((1 : Int32))).toNatClampNeg))))), (0, .ref b0), (1, .ref fx1), (3, .int x3), (4, .long x4), (6, .int x6), (7, .int x7)]) hx hb dX9_calls_199 hl (by decide) (by simp [List.filter, rq_cat]) (fun ls hl => ?_)
  refine lv_aload_n hx hb dX9_calls_201 rfl (lv_at hl 5 rfl) ?_
  refine gf_MF_sorts hx hb hgw iwMF hown hK hO hf_fx1 k100 dX9_calls_202 ?_
  refine lv_iload_n hx hb dX9_calls_205 rfl (lv_at hl 6 rfl) ?_
  refine lv_iconst (v := 2) hx hb dX9_calls_206 (by decide) ?_
  refine lv_iadd hx hb dX9_calls_207 ?_
  obtain ⟨hc27, h⟩ := ck_some h
  refine al_MSorts hx hb hK hO hf_fx1 hc27 dX9_calls_208 ?_
  refine lv_iconst (v := 1) hx hb dX9_calls_209 (by decide) ?_
  refine lv_icmp_eq (tgt := 225) hx hb dX9_calls_210 (by decide) (fun c28 => ?_) (fun c28 => ?_)
  · have h := ite_t c28 h
    exact c_Mo_calls_L225 hRx hRc ⟨hx, hb, hml, hown, hts⟩ hr hlocks hK r st' st0 st24 x1 fx1 hf_fx1 x3 x4 r23 fr23 hf_fr23 (gR st24 50 (16 * x1 + ((x3 + ((2 : Int32))).toNatClampNeg))) _ _ _ h hO (lv_sub hl [4, 5, 6, 7, 2, 1] rfl) (show Ext st0 _ from E_st24)
  · have h := ite_f c28 h
    refine lv_aload_n hx hb dX9_calls_213 rfl (lv_at hl 5 rfl) ?_
    refine gf_MF_sorts hx hb hgw iwMF hown hK hO hf_fx1 k100 dX9_calls_214 ?_
    refine lv_iload_n hx hb dX9_calls_217 rfl (lv_at hl 6 rfl) ?_
    refine lv_iconst (v := 2) hx hb dX9_calls_218 (by decide) ?_
    refine lv_iadd hx hb dX9_calls_219 ?_
    obtain ⟨hc49, h⟩ := ck_some h
    refine al_MSorts hx hb hK hO hf_fx1 hc49 dX9_calls_220 ?_
    refine lv_iconst (v := 2) hx hb dX9_calls_221 (by decide) ?_
    refine lv_icmp_ne (tgt := 244) hx hb dX9_calls_222 (by decide) (fun c50 => ?_) (fun c50 => ?_)
    · have h := ite_f c50 h
      exact c_Mo_calls_L244 hRx hRc ⟨hx, hb, hml, hown, hts⟩ hr hlocks hK r st' st0 st24 x1 fx1 hf_fx1 x3 x4 r23 fr23 hf_fr23 0 _ _ _ h hO (lv_sub hl [4, 5, 6, 7, 2, 0] rfl) (show Ext st0 _ from E_st24)
    · have h := ite_t c50 h
      exact c_Mo_calls_L225 hRx hRc ⟨hx, hb, hml, hown, hts⟩ hr hlocks hK r st' st0 st24 x1 fx1 hf_fx1 x3 x4 r23 fr23 hf_fr23 (gR st24 50 (16 * x1 + ((x3 + ((2 : Int32))).toNatClampNeg))) _ _ _ h hO (lv_sub hl [4, 5, 6, 7, 2, 1] rfl) (show Ext st0 _ from E_st24)
set_option maxHeartbeats 4000000 in
set_option maxRecDepth 100000 in
theorem c_Mo_calls_L108 {l : Launch} {D : va_G} {A : Nat → Prop} {b0 : Nat} {cA : Nat → ClassId} {RAN : Nat → Int64 → CwS → Option (Int32 × CwS)} {d : Nat} (hRx : ∀ (f : Nat) (v : Int64) (st : CwS) (r : Int32) (st' : CwS), RAN f v st = some (r, st') → Ext st st') (hRc : ∀ (st0 : CwS) (f fa : Nat) (hf : rfF st0 f fa) (v : Int64) (r : Int32) (st' : CwS), RAN f v st0 = some (r, st') → Met l yX9_ran (wv yX9_ran cX9_ran 6 (some .int)) ({ frames := 5 * d + 10, cells := gR st' 101 2 - gR st0 101 2, slots := gR st' 101 3 - gR st0 101 3, locals := 139 * d + 200 }) (va_Pc [.ref b0, .ref fa, .long v] (rfU D A b0 cA st0)) (rfQi D A b0 cA r st') (gR st' 101 2 - gR st0 101 2) (gR st' 101 3 - gR st0 101 3) A) {p : Program} {e : Env} {s : State} {m : MethodId} {args : Array Value} {below : List Frame} {meth : Method} {c : Code} (S : CallFix p m c cX9_calls 15 s args (wv yX9_calls cX9_calls 15 (some .int)) RX9) (hr : meth.sig.returnType = some .int) (hlocks : meth.locks = false) (hK : rfK D cA s) (r : Int32) (st' : CwS) (st0 : CwS) (st : CwS) (x1 : Nat) (fx1 : Nat) (hf_fx1 : rfF st x1 fx1) (x3 : Int32) (x4 : Int64) (x6 : Int32) (x7 : Int32) (H : Heap) (locs : List Loc) (ls : Array Slot) (h : j_Mo_calls_L108 RAN x1 x3 x4 x6 x7 st = some (r, st')) (hO : rfO D A b0 cA s st H locs) (hl : lv_has ls 15 [(0, .ref b0), (1, .ref fx1), (3, .int x3), (4, .long x4), (6, .int x6), (7, .int x7)]) (E_st : Ext st0 st) : W p l e ({ frames := 5 * d + 11, cells := gR st' 101 2 - gR st0 101 2, slots := gR st' 101 3 - gR st0 101 3, locals := 139 * d + 225 }) s m args below meth c H locs (gR st 101 2 - gR st0 101 2) (gR st 101 3 - gR st0 101 3) (MQ below (rfQi D A b0 cA r st') args s (gR st' 101 2 - gR st0 101 2) (gR st' 101 3 - gR st0 101 3) A) (F0 m 108 ls []) := by
  obtain ⟨hx, hb, hml, hown, hts⟩ := S
  have hgw := fun (w : Cond) (h : w ∈ gwW) => hts w (List.mem_cons_of_mem _ h)
  have k19 := hgw _ w_efb03767
  have k27 := hgw _ w_84119660
  have k30 := hgw _ w_9377dda0
  have k61 := hgw _ w_b3eed388
  have k64 := hgw _ w_6e237316
  have k67 := hgw _ w_1c4b90a6
  have k97 := hgw _ w_bb1741c6
  have k100 := hgw _ w_36d04f4c
  have k103 := hgw _ w_05e7d7f0
  have k124 := hgw _ w_4df17ecc
  have k156 := hgw _ w_f30ac9b6
  have k160 := hgw _ w_91749c89
  have k162 := hgw _ w_04e9077b
  have k165 := hgw _ w_3c4c2edb
  have k172 := hgw _ w_794b17b8
  unfold j_Mo_calls_L108 at h
  refine lv_aload_n hx hb dX9_calls_108 rfl (lv_at hl 0 rfl) ?_
  refine gf_Mo_calls hx hb hgw iwMo hown hK hO k156 dX9_calls_109 ?_
  refine lv_bipush (v := 10) hx hb dX9_calls_112 (by decide) ?_
  refine lv_icmp_ne (tgt := 120) hx hb dX9_calls_114 (by decide) (fun c20 => ?_) (fun c20 => ?_)
  · have h := ite_f c20 h
    refine lv_iload hx hb dX9_calls_120 (lv_at hl 4 rfl) ?_
    refine lv_aload_n hx hb dX9_calls_122 rfl (lv_at hl 1 rfl) ?_
    refine gf_MF_contract hx hb hgw iwMF hown hK hO hf_fx1 k67 dX9_calls_123 ?_
    refine lv_icmp_eq (tgt := 149) hx hb dX9_calls_126 (by decide) (fun c21 => ?_) (fun c21 => ?_)
    · have h := ite_t c21 h
      exact c_Mo_calls_L149 hRx hRc ⟨hx, hb, hml, hown, hts⟩ hr hlocks hK r st' st0 st x1 fx1 hf_fx1 x3 x4 x6 x7 _ _ _ h hO (lv_sub hl [0, 1, 2, 3, 4, 5] rfl) (show Ext st0 _ from E_st)
    · have h := ite_f c21 h
      refine lv_aload_n hx hb dX9_calls_129 rfl (lv_at hl 0 rfl) ?_
      refine gf_Mo_balances hx hb hgw iwMo hown hK hO k27 dX9_calls_130 ?_
      refine lv_iload hx hb dX9_calls_133 (lv_at hl 4 rfl) ?_
      obtain ⟨hc52, h⟩ := ck_some h
      refine al_MBals hx hb hK hO hc52 dX9_calls_135 ?_
      refine lv_ldc2 hx hb hown k160 dX9_calls_136 ?_
      refine lv_lload hx hb dX9_calls_139 (lv_at hl 3 rfl) ?_
      refine lv_lsub hx hb dX9_calls_141 ?_
      refine W.lcmp hx hb dX9_calls_142 ?_
      refine lv_if_le (tgt := 149) hx hb dX9_calls_143 (by decide) (fun c53 => ?_) (fun c53 => ?_)
      · have h := ite_t c53 h
        exact c_Mo_calls_L149 hRx hRc ⟨hx, hb, hml, hown, hts⟩ hr hlocks hK r st' st0 st x1 fx1 hf_fx1 x3 x4 x6 x7 _ _ _ h hO (lv_sub hl [0, 1, 2, 3, 4, 5] rfl) (show Ext st0 _ from E_st)
      · have h := ite_f c53 h
        refine lv_bipush (v := 6) hx hb dX9_calls_146 (by decide) ?_
        obtain ⟨rfl, rfl⟩ := ret2 h; exact rf_iret hx hb hr hlocks hO dX9_calls_148
  · have h := ite_t c20 h
    refine lv_bipush (v := 10) hx hb dX9_calls_117 (by decide) ?_
    obtain ⟨rfl, rfl⟩ := ret2 h; exact rf_iret hx hb hr hlocks hO dX9_calls_119
set_option maxHeartbeats 4000000 in
set_option maxRecDepth 100000 in
theorem c_Mo_calls (l : Launch) (D : va_G) (A : Nat → Prop) (b0 : Nat) (cA : Nat → ClassId) (RAN : Nat → Int64 → CwS → Option (Int32 × CwS)) (d : Nat) (hRx : ∀ (f : Nat) (v : Int64) (st : CwS) (r : Int32) (st' : CwS), RAN f v st = some (r, st') → Ext st st') (hRc : ∀ (st0 : CwS) (f fa : Nat) (hf : rfF st0 f fa) (v : Int64) (r : Int32) (st' : CwS), RAN f v st0 = some (r, st') → Met l yX9_ran (wv yX9_ran cX9_ran 6 (some .int)) ({ frames := 5 * d + 10, cells := gR st' 101 2 - gR st0 101 2, slots := gR st' 101 3 - gR st0 101 3, locals := 139 * d + 200 }) (va_Pc [.ref b0, .ref fa, .long v] (rfU D A b0 cA st0)) (rfQi D A b0 cA r st') (gR st' 101 2 - gR st0 101 2) (gR st' 101 3 - gR st0 101 3) A) (st0 : CwS) (a1 : Nat) (fa1 : Nat) (hf_fa1 : rfF st0 a1 fa1) (a2 : Int32) (a3 : Int32) (r : Int32) (st' : CwS) (h : j_Mo_calls RAN a1 a2 a3 st0 = some (r, st')) : Met l yX9_calls (wv yX9_calls cX9_calls 15 (some .int)) ({ frames := 5 * d + 11, cells := gR st' 101 2 - gR st0 101 2, slots := gR st' 101 3 - gR st0 101 3, locals := 139 * d + 225 }) (va_Pc [.ref b0, .ref fa1, .int a2, .int a3] (rfU D A b0 cA st0)) (rfQi D A b0 cA r st') (gR st' 101 2 - gR st0 101 2) (gR st' 101 3 - gR st0 101 3) A := by
  refine Met.ofW (cc := cX9_calls) (maxL := 15) (ret := some .int) (by decide) rfl ?_
  intro p e s m args below meth c s₁ B hml hv
  obtain ⟨rfl, hP, hD, hz, hK⟩ := hv
  have hx := B.exec
  have hb := B.bytes
  have hr := B.returns
  have hts := atoms_spec (ws := wv yX9_calls cX9_calls 15 (some .int)) B.pre
  have hown : s.vm.findClass RX9 = some m.cls := findClass_of_methodNamed B.named
  have hlocks := B.notSynchronized
  have hO : rfO D A b0 cA s st0 s.heap [] := ⟨hP, hD, va_S.rf, hz⟩
  have hl := lv_entry ([.ref b0, .ref fa1, .int a2, .int a3]) (n := 15) (Nat.le_of_ble_eq_true rfl)
  rw [lg_entry_eq]
  generalize (lg_sl ([.ref b0, .ref fa1, .int a2, .int a3]) ++ List.replicate (15 - (lg_sl ([.ref b0, .ref fa1, .int a2, .int a3])).length) Slot.unset).toArray = ls at hl ⊢
  have hl : lv_has ls 15 [(0, .ref b0), (1, .ref fa1), (2, .int a2), (3, .int a3)] := hl
  have hgw := fun (w : Cond) (h : w ∈ gwW) => hts w (List.mem_cons_of_mem _ h)
  have k19 := hgw _ w_efb03767
  have k27 := hgw _ w_84119660
  have k30 := hgw _ w_9377dda0
  have k61 := hgw _ w_b3eed388
  have k64 := hgw _ w_6e237316
  have k67 := hgw _ w_1c4b90a6
  have k97 := hgw _ w_bb1741c6
  have k100 := hgw _ w_36d04f4c
  have k103 := hgw _ w_05e7d7f0
  have k124 := hgw _ w_4df17ecc
  have k156 := hgw _ w_f30ac9b6
  have k160 := hgw _ w_91749c89
  have k162 := hgw _ w_04e9077b
  have k165 := hgw _ w_3c4c2edb
  have k172 := hgw _ w_794b17b8
  unfold j_Mo_calls at h
  have E_st0 := Ext.refl st0
  refine W.widen (k := gR st0 101 2 - gR st0 101 2) (n := gR st0 101 3 - gR st0 101 3) (Nat.zero_le _) (Nat.zero_le _) ?_
  refine lv_aload_n hx hb dX9_calls_0 rfl (lv_at hl 1 rfl) ?_
  refine lv_iload_n hx hb dX9_calls_1 rfl (lv_at hl 3 rfl) ?_
  refine lv_iconst (v := 1) hx hb dX9_calls_2 (by decide) ?_
  refine lv_iadd hx hb dX9_calls_3 ?_
  have y_st2 : Ext st0 st' := by
    obtain ⟨r1, st2, h3, h⟩ := bR_some h
    refine Ext.trans (a := st0) (b := st2) (by have t := x_MF_isNumber h3; exact t) ?_
    by_cases c4 : r1 = ((0 : Int32))
    · have h := ite_t c4 h
      obtain ⟨-, rfl⟩ := ret2 h; exact (show Ext st2 _ from Ext.refl st2)
    · have h := ite_f c4 h
      obtain ⟨r5, st6, h7, h⟩ := bR_some h
      refine Ext.trans (a := st2) (b := st6) (by have t := x_MF_isNumber h7; exact t) ?_
      by_cases c8 : r5 = ((0 : Int32))
      · have h := ite_t c8 h
        obtain ⟨-, rfl⟩ := ret2 h; exact (show Ext st6 _ from Ext.refl st6)
      · have h := ite_f c8 h
        obtain ⟨-, h⟩ := ck_some h
        by_cases c10 : (lg_cmp (gL st6 7 a1 a3.toNatClampNeg) ((0 : Int64))) < ((0 : Int32))
        · have h := ite_t c10 h
          obtain ⟨-, rfl⟩ := ret2 h; exact (show Ext st6 _ from Ext.refl st6)
        · have h := ite_f c10 h
          obtain ⟨-, h⟩ := ck_some h
          by_cases c12 : (lg_cmp (gL st6 7 a1 a3.toNatClampNeg) (gL st6 1 0 ((gI st6 14 a1 0).toNatClampNeg))) ≤ ((0 : Int32))
          · have h := ite_t c12 h
            obtain ⟨r13, st14, h15, h⟩ := bR_some h
            refine Ext.trans (a := st6) (b := st14) (by have t := x_Mo_isIn h15; exact t) ?_
            by_cases c16 : r13 = ((0 : Int32))
            · have h := ite_t c16 h
              obtain ⟨-, rfl⟩ := ret2 h; exact (show Ext st14 _ from Ext.refl st14)
            · have h := ite_f c16 h
              by_cases c17 : (a2 &&& ((7 : Int32))) < ((6 : Int32))
              · have h := ite_t c17 h
                obtain ⟨-, h⟩ := ck_some h
                by_cases c19 : (gI st14 3 0 ((a2 >>> (((3 : Int32)) &&& 31)).toNatClampNeg)) = ((0 : Int32))
                · have h := ite_t c19 h
                  have t := x_Mo_calls_L108 hRx h; exact (show Ext st14 _ from t)
                · have h := ite_f c19 h
                  obtain ⟨-, h⟩ := ck_some h
                  by_cases c55 : (gI st14 4 0 ((a2 >>> (((3 : Int32)) &&& 31)).toNatClampNeg)) ≤ ((0 : Int32))
                  · have h := ite_t c55 h
                    have t := x_Mo_calls_L108 hRx h; exact (show Ext st14 _ from t)
                  · have h := ite_f c55 h
                    obtain ⟨-, rfl⟩ := ret2 h; exact (show Ext st14 _ from Ext.refl st14)
              · have h := ite_f c17 h
                obtain ⟨-, rfl⟩ := ret2 h; exact (show Ext st14 _ from Ext.refl st14)
          · have h := ite_f c12 h
            obtain ⟨-, rfl⟩ := ret2 h; exact (show Ext st6 _ from Ext.refl st6)
  obtain ⟨r1, st2, h3, h⟩ := bR_some h
  have x_st2 : Ext st0 st2 := by have t := x_MF_isNumber h3; exact t
  refine rf_calli (va_runV (As := [.int (a3 + ((1 : Int32)))]) (rest := []) ⟨hx, hb, hml, hown, hts⟩ (c_MF_isNumber l D A b0 cA st0 a1 fa1 hf_fa1 (a3 + ((1 : Int32))) r1 st2 h3) (cwV 1 hts (gw_V w_c76bdf02 w_8ae0f39a w_9dc8e263 w_18ea82d2 w_a2deccac) rfl rfl rfl (by decide +kernel) ⟨by show 0 + 1 ≤ 5 * d + 11; omega, by show 8 + (2 + 11) + (0) ≤ 139 * d + 225; omega⟩) (rf_preF hf_fa1 hK hO) rfl rfl hl.1 rfl (lv_room (Nat.le_of_ble_eq_true rfl)) dX9_calls_4 ⟨by have q1 := E_st0; have q2 := y_st2; unfold Ext at q1 q2; show (gR st0 101 2 - gR st0 101 2) + 0 ≤ gR st' 101 2 - gR st0 101 2; omega, by have q1 := E_st0; have q2 := y_st2; unfold Ext at q1 q2; show (gR st0 101 3 - gR st0 101 3) + 0 ≤ gR st' 101 3 - gR st0 101 3; omega⟩) hO (fun H locs hO => ?_)
  have hf_fa1 : rfF st2 a1 fa1 := rfF.ext (show rfF st0 a1 fa1 from hf_fa1) x_st2
  have E_st2 : Ext st0 st2 := E_st0.trans x_st2
  refine W.widen (k := gR st2 101 2 - gR st0 101 2) (n := gR st2 101 3 - gR st0 101 3) (by have q1 := E_st0; have q2 := x_st2; unfold Ext at q1 q2; omega) (by have q1 := E_st0; have q2 := x_st2; unfold Ext at q1 q2; omega) ?_
  refine lv_if_eq (tgt := 18) hx hb dX9_calls_7 (by decide) (fun c4 => ?_) (fun c4 => ?_)
  · have h := ite_t c4 h
    refine lv_iconst (v := 4) hx hb dX9_calls_18 (by decide) ?_
    obtain ⟨rfl, rfl⟩ := ret2 h; exact rf_iret hx hb hr hlocks hO dX9_calls_19
  · have h := ite_f c4 h
    refine lv_aload_n hx hb dX9_calls_10 rfl (lv_at hl 1 rfl) ?_
    refine lv_iload_n hx hb dX9_calls_11 rfl (lv_at hl 3 rfl) ?_
    have y_st6 : Ext st2 st' := by
      obtain ⟨r5, st6, h7, h⟩ := bR_some h
      refine Ext.trans (a := st2) (b := st6) (by have t := x_MF_isNumber h7; exact t) ?_
      by_cases c8 : r5 = ((0 : Int32))
      · have h := ite_t c8 h
        obtain ⟨-, rfl⟩ := ret2 h; exact (show Ext st6 _ from Ext.refl st6)
      · have h := ite_f c8 h
        obtain ⟨-, h⟩ := ck_some h
        by_cases c10 : (lg_cmp (gL st6 7 a1 a3.toNatClampNeg) ((0 : Int64))) < ((0 : Int32))
        · have h := ite_t c10 h
          obtain ⟨-, rfl⟩ := ret2 h; exact (show Ext st6 _ from Ext.refl st6)
        · have h := ite_f c10 h
          obtain ⟨-, h⟩ := ck_some h
          by_cases c12 : (lg_cmp (gL st6 7 a1 a3.toNatClampNeg) (gL st6 1 0 ((gI st6 14 a1 0).toNatClampNeg))) ≤ ((0 : Int32))
          · have h := ite_t c12 h
            obtain ⟨r13, st14, h15, h⟩ := bR_some h
            refine Ext.trans (a := st6) (b := st14) (by have t := x_Mo_isIn h15; exact t) ?_
            by_cases c16 : r13 = ((0 : Int32))
            · have h := ite_t c16 h
              obtain ⟨-, rfl⟩ := ret2 h; exact (show Ext st14 _ from Ext.refl st14)
            · have h := ite_f c16 h
              by_cases c17 : (a2 &&& ((7 : Int32))) < ((6 : Int32))
              · have h := ite_t c17 h
                obtain ⟨-, h⟩ := ck_some h
                by_cases c19 : (gI st14 3 0 ((a2 >>> (((3 : Int32)) &&& 31)).toNatClampNeg)) = ((0 : Int32))
                · have h := ite_t c19 h
                  have t := x_Mo_calls_L108 hRx h; exact (show Ext st14 _ from t)
                · have h := ite_f c19 h
                  obtain ⟨-, h⟩ := ck_some h
                  by_cases c55 : (gI st14 4 0 ((a2 >>> (((3 : Int32)) &&& 31)).toNatClampNeg)) ≤ ((0 : Int32))
                  · have h := ite_t c55 h
                    have t := x_Mo_calls_L108 hRx h; exact (show Ext st14 _ from t)
                  · have h := ite_f c55 h
                    obtain ⟨-, rfl⟩ := ret2 h; exact (show Ext st14 _ from Ext.refl st14)
              · have h := ite_f c17 h
                obtain ⟨-, rfl⟩ := ret2 h; exact (show Ext st14 _ from Ext.refl st14)
          · have h := ite_f c12 h
            obtain ⟨-, rfl⟩ := ret2 h; exact (show Ext st6 _ from Ext.refl st6)
    obtain ⟨r5, st6, h7, h⟩ := bR_some h
    have x_st6 : Ext st2 st6 := by have t := x_MF_isNumber h7; exact t
    refine rf_calli (va_runV (As := [.int a3]) (rest := []) ⟨hx, hb, hml, hown, hts⟩ (c_MF_isNumber l D A b0 cA st2 a1 fa1 hf_fa1 a3 r5 st6 h7) (cwV 1 hts (gw_V w_c76bdf02 w_8ae0f39a w_9dc8e263 w_18ea82d2 w_a2deccac) rfl rfl rfl (by decide +kernel) ⟨by show 0 + 1 ≤ 5 * d + 11; omega, by show 8 + (2 + 11) + (0) ≤ 139 * d + 225; omega⟩) (rf_preF hf_fa1 hK hO) rfl rfl hl.1 rfl (lv_room (Nat.le_of_ble_eq_true rfl)) dX9_calls_12 ⟨by have q1 := E_st2; have q2 := y_st6; unfold Ext at q1 q2; show (gR st2 101 2 - gR st0 101 2) + 0 ≤ gR st' 101 2 - gR st0 101 2; omega, by have q1 := E_st2; have q2 := y_st6; unfold Ext at q1 q2; show (gR st2 101 3 - gR st0 101 3) + 0 ≤ gR st' 101 3 - gR st0 101 3; omega⟩) hO (fun H locs hO => ?_)
    have hf_fa1 : rfF st6 a1 fa1 := rfF.ext (show rfF st2 a1 fa1 from hf_fa1) x_st6
    have E_st6 : Ext st0 st6 := E_st2.trans x_st6
    refine W.widen (k := gR st6 101 2 - gR st0 101 2) (n := gR st6 101 3 - gR st0 101 3) (by have q1 := E_st2; have q2 := x_st6; unfold Ext at q1 q2; omega) (by have q1 := E_st2; have q2 := x_st6; unfold Ext at q1 q2; omega) ?_
    refine lv_if_ne (tgt := 20) hx hb dX9_calls_15 (by decide) (fun c8 => ?_) (fun c8 => ?_)
    · have h := ite_f c8 h
      refine lv_aload_n hx hb dX9_calls_20 rfl (lv_at hl 1 rfl) ?_
      refine gf_MF_n hx hb hgw iwMF hown hK hO hf_fa1 k97 dX9_calls_21 ?_
      refine lv_iload_n hx hb dX9_calls_24 rfl (lv_at hl 3 rfl) ?_
      obtain ⟨hc9, h⟩ := ck_some h
      refine al_MN hx hb hK hO hf_fa1 hc9 dX9_calls_25 ?_
      refine lv_lstore (lv' := [(4, .long (gL st6 7 a1 a3.toNatClampNeg)), (0, .ref b0), (1, .ref fa1), (2, .int a2), (3, .int a3)]) hx hb dX9_calls_26 hl (by decide) rfl (fun ls hl => ?_)
      refine lv_lload hx hb dX9_calls_28 (lv_at hl 0 rfl) ?_
      refine lv_lconst (v := 0) hx hb dX9_calls_30 (by decide) ?_
      refine W.lcmp hx hb dX9_calls_31 ?_
      refine lv_if_lt (tgt := 50) hx hb dX9_calls_32 (by decide) (fun c10 => ?_) (fun c10 => ?_)
      · have h := ite_t c10 h
        refine lv_bipush (v := 9) hx hb dX9_calls_50 (by decide) ?_
        obtain ⟨rfl, rfl⟩ := ret2 h; exact rf_iret hx hb hr hlocks hO dX9_calls_52
      · have h := ite_f c10 h
        refine lv_lload hx hb dX9_calls_35 (lv_at hl 0 rfl) ?_
        refine lv_aload_n hx hb dX9_calls_37 rfl (lv_at hl 1 rfl) ?_
        refine gf_Mo_balances hx hb hgw iwMo hown hK hO k27 dX9_calls_38 ?_
        refine lv_aload_n hx hb dX9_calls_41 rfl (lv_at hl 2 rfl) ?_
        refine gf_MF_contract hx hb hgw iwMF hown hK hO hf_fa1 k67 dX9_calls_42 ?_
        obtain ⟨hc11, h⟩ := ck_some h
        refine al_MBals hx hb hK hO hc11 dX9_calls_45 ?_
        refine W.lcmp hx hb dX9_calls_46 ?_
        refine lv_if_le (tgt := 53) hx hb dX9_calls_47 (by decide) (fun c12 => ?_) (fun c12 => ?_)
        · have h := ite_t c12 h
          refine lv_iload_n hx hb dX9_calls_53 rfl (lv_at hl 3 rfl) ?_
          refine lv_iconst (v := 3) hx hb dX9_calls_54 (by decide) ?_
          refine lv_ishr hx hb dX9_calls_55 ?_
          refine lv_istore (lv' := [(6, .int (a2 >>> (((3 : Int32)) &&& 31))), (4, .long (gL st6 7 a1 a3.toNatClampNeg)), (0, .ref b0), (1, .ref fa1), (2, .int a2), (3, .int a3)]) hx hb dX9_calls_56 hl (by decide) rfl (fun ls hl => ?_)
          refine lv_iload_n hx hb dX9_calls_58 rfl (lv_at hl 4 rfl) ?_
          refine lv_bipush (v := 7) hx hb dX9_calls_59 (by decide) ?_
          refine lv_iand hx hb dX9_calls_61 ?_
          refine lv_istore (lv' := [(7, .int (a2 &&& ((7 : Int32)))), (6, .int (a2 >>> (((3 : Int32)) &&& 31))), (4, .long (gL st6 7 a1 a3.toNatClampNeg)), (0, .ref b0), (1, .ref fa1), (2, .int a2), (3, .int a3)]) hx hb dX9_calls_62 hl (by decide) rfl (fun ls hl => ?_)
          refine lv_iload hx hb dX9_calls_64 (lv_at hl 1 rfl) ?_
          refine lv_iconst (v := 0) hx hb dX9_calls_66 (by decide) ?_
          refine lv_bipush (v := 7) hx hb dX9_calls_67 (by decide) ?_
          have y_st14 : Ext st6 st' := by
            obtain ⟨r13, st14, h15, h⟩ := bR_some h
            refine Ext.trans (a := st6) (b := st14) (by have t := x_Mo_isIn h15; exact t) ?_
            by_cases c16 : r13 = ((0 : Int32))
            · have h := ite_t c16 h
              obtain ⟨-, rfl⟩ := ret2 h; exact (show Ext st14 _ from Ext.refl st14)
            · have h := ite_f c16 h
              by_cases c17 : (a2 &&& ((7 : Int32))) < ((6 : Int32))
              · have h := ite_t c17 h
                obtain ⟨-, h⟩ := ck_some h
                by_cases c19 : (gI st14 3 0 ((a2 >>> (((3 : Int32)) &&& 31)).toNatClampNeg)) = ((0 : Int32))
                · have h := ite_t c19 h
                  have t := x_Mo_calls_L108 hRx h; exact (show Ext st14 _ from t)
                · have h := ite_f c19 h
                  obtain ⟨-, h⟩ := ck_some h
                  by_cases c55 : (gI st14 4 0 ((a2 >>> (((3 : Int32)) &&& 31)).toNatClampNeg)) ≤ ((0 : Int32))
                  · have h := ite_t c55 h
                    have t := x_Mo_calls_L108 hRx h; exact (show Ext st14 _ from t)
                  · have h := ite_f c55 h
                    obtain ⟨-, rfl⟩ := ret2 h; exact (show Ext st14 _ from Ext.refl st14)
              · have h := ite_f c17 h
                obtain ⟨-, rfl⟩ := ret2 h; exact (show Ext st14 _ from Ext.refl st14)
          obtain ⟨r13, st14, h15, h⟩ := bR_some h
          have x_st14 : Ext st6 st14 := by have t := x_Mo_isIn h15; exact t
          refine rf_calli (va_runS (As := [.int (a2 >>> (((3 : Int32)) &&& 31)), .int ((0 : Int32)), .int ((7 : Int32))]) (rest := []) ⟨hx, hb, hml, hown, hts⟩ (c_Mo_isIn l D A b0 cA st6 (a2 >>> (((3 : Int32)) &&& 31)) ((0 : Int32)) ((7 : Int32)) r13 st14 h15) (va_cwS 3 hts (gw_S w_b104d635 w_dc566d63 w_18f41a94 w_c8674231) rfl rfl rfl (by decide +kernel) ⟨by show 0 + 1 ≤ 5 * d + 11; omega, by show 8 + (3 + 11) + (0) ≤ 139 * d + 225; omega⟩) (rf_preS hK hO) rfl rfl hl.1 rfl (lv_room (Nat.le_of_ble_eq_true rfl)) dX9_calls_69 ⟨by have q1 := E_st6; have q2 := y_st14; unfold Ext at q1 q2; show (gR st6 101 2 - gR st0 101 2) + 0 ≤ gR st' 101 2 - gR st0 101 2; omega, by have q1 := E_st6; have q2 := y_st14; unfold Ext at q1 q2; show (gR st6 101 3 - gR st0 101 3) + 0 ≤ gR st' 101 3 - gR st0 101 3; omega⟩) hO (fun H locs hO => ?_)
          have hf_fa1 : rfF st14 a1 fa1 := rfF.ext (show rfF st6 a1 fa1 from hf_fa1) x_st14
          have E_st14 : Ext st0 st14 := E_st6.trans x_st14
          refine W.widen (k := gR st14 101 2 - gR st0 101 2) (n := gR st14 101 3 - gR st0 101 3) (by have q1 := E_st6; have q2 := x_st14; unfold Ext at q1 q2; omega) (by have q1 := E_st6; have q2 := x_st14; unfold Ext at q1 q2; omega) ?_
          refine lv_if_eq (tgt := 82) hx hb dX9_calls_72 (by decide) (fun c16 => ?_) (fun c16 => ?_)
          · have h := ite_t c16 h
            refine lv_bipush (v := 12) hx hb dX9_calls_82 (by decide) ?_
            obtain ⟨rfl, rfl⟩ := ret2 h; exact rf_iret hx hb hr hlocks hO dX9_calls_84
          · have h := ite_f c16 h
            refine lv_iload hx hb dX9_calls_75 (lv_at hl 0 rfl) ?_
            refine lv_bipush (v := 6) hx hb dX9_calls_77 (by decide) ?_
            refine lv_icmp_lt (tgt := 85) hx hb dX9_calls_79 (by decide) (fun c17 => ?_) (fun c17 => ?_)
            · have h := ite_t c17 h
              refine lv_aload_n hx hb dX9_calls_85 rfl (lv_at hl 3 rfl) ?_
              refine gf_Mo_guarded hx hb hgw iwMo hown hK hO k19 dX9_calls_86 ?_
              refine lv_iload hx hb dX9_calls_89 (lv_at hl 1 rfl) ?_
              obtain ⟨hc18, h⟩ := ck_some h
              refine al_MGuard hx hb hK hO hc18 dX9_calls_91 ?_
              refine lv_if_eq (tgt := 108) hx hb dX9_calls_92 (by decide) (fun c19 => ?_) (fun c19 => ?_)
              · have h := ite_t c19 h
                exact c_Mo_calls_L108 hRx hRc ⟨hx, hb, hml, hown, hts⟩ hr hlocks hK r st' st0 st14 a1 fa1 hf_fa1 a3 (gL st6 7 a1 a3.toNatClampNeg) (a2 >>> (((3 : Int32)) &&& 31)) (a2 &&& ((7 : Int32))) _ _ _ h hO (lv_sub hl [3, 4, 6, 2, 1, 0] rfl) (show Ext st0 _ from E_st14)
              · have h := ite_f c19 h
                refine lv_aload_n hx hb dX9_calls_95 rfl (lv_at hl 3 rfl) ?_
                refine gf_Mo_under hx hb hgw iwMo hown hK hO k30 dX9_calls_96 ?_
                refine lv_iload hx hb dX9_calls_99 (lv_at hl 1 rfl) ?_
                obtain ⟨hc54, h⟩ := ck_some h
                refine al_MUnder hx hb hK hO hc54 dX9_calls_101 ?_
                refine lv_if_le (tgt := 108) hx hb dX9_calls_102 (by decide) (fun c55 => ?_) (fun c55 => ?_)
                · have h := ite_t c55 h
                  exact c_Mo_calls_L108 hRx hRc ⟨hx, hb, hml, hown, hts⟩ hr hlocks hK r st' st0 st14 a1 fa1 hf_fa1 a3 (gL st6 7 a1 a3.toNatClampNeg) (a2 >>> (((3 : Int32)) &&& 31)) (a2 &&& ((7 : Int32))) _ _ _ h hO (lv_sub hl [3, 4, 6, 2, 1, 0] rfl) (show Ext st0 _ from E_st14)
                · have h := ite_f c55 h
                  refine lv_bipush (v := 8) hx hb dX9_calls_105 (by decide) ?_
                  obtain ⟨rfl, rfl⟩ := ret2 h; exact rf_iret hx hb hr hlocks hO dX9_calls_107
            · have h := ite_f c17 h
              refine lv_bipush (v := 12) hx hb dX9_calls_82 (by decide) ?_
              obtain ⟨rfl, rfl⟩ := ret2 h; exact rf_iret hx hb hr hlocks hO dX9_calls_84
        · have h := ite_f c12 h
          refine lv_bipush (v := 9) hx hb dX9_calls_50 (by decide) ?_
          obtain ⟨rfl, rfl⟩ := ret2 h; exact rf_iret hx hb hr hlocks hO dX9_calls_52
    · have h := ite_t c8 h
      refine lv_iconst (v := 4) hx hb dX9_calls_18 (by decide) ?_
      obtain ⟨rfl, rfl⟩ := ret2 h; exact rf_iret hx hb hr hlocks hO dX9_calls_19
-- CallWalkerModel went
def j_Mo_went_L356 (RAN : Nat → Int64 → CwS → Option (Int32 × CwS)) (x1 : Nat) (x4 : Int32) (st : CwS) : Option (Int32 × CwS) :=
  bR (j_MF_isNumber x1 x4 st) fun r46 st47 =>
  if r46 = ((0 : Int32)) then
    some ((4 : Int32), st47)
  else
    some ((11 : Int32), st47)
def j_Mo_went_L151 (RAN : Nat → Int64 → CwS → Option (Int32 × CwS)) (x1 : Nat) (x4 : Int32) (st : CwS) : Option (Int32 × CwS) :=
  bR (j_MF_isNumber x1 x4 st) fun r12 st13 =>
  if r12 = ((0 : Int32)) then
    some ((4 : Int32), st13)
  else
    some ((12 : Int32), st13)
def j_Mo_went (RAN : Nat → Int64 → CwS → Option (Int32 × CwS)) (a1 : Nat) (a2 : Int32) (a3 : Int32) (a4 : Int32) (st0 : CwS) : Option (Int32 × CwS) :=
  ck (ix ((((6 : Int32)) * (gI st0 14 a1 0)) + (gI st0 16 a1 0)) 48) <|
  bR (j_Mo_isIn a3 ((0 : Int32)) (gI st0 2 0 (((((6 : Int32)) * (gI st0 14 a1 0)) + (gI st0 16 a1 0)).toNatClampNeg)) st0) fun r2 st3 =>
  if a2 = (13 : Int32) then
    if r2 = ((0 : Int32)) then
      if r2 = ((0 : Int32)) then
        some ((12 : Int32), sI st3 20 a1 0 (gI st3 20 a1 0))
      else
        some ((0 : Int32), sI st3 20 a1 0 (gI st3 20 a1 0))
    else
      if r2 = ((0 : Int32)) then
        some ((12 : Int32), sI st3 20 a1 0 a3)
      else
        some ((0 : Int32), sI st3 20 a1 0 a3)
  else
  if a2 = (14 : Int32) then
    bR (j_MF_isNumber a1 a4 st3) fun r8 st9 =>
    if r8 = ((0 : Int32)) then
      j_Mo_went_L151 RAN a1 a4 st9
    else
      if r2 = ((0 : Int32)) then
        j_Mo_went_L151 RAN a1 a4 st9
      else
        ck (ix a4 13) <|
        if (lg_cmp (gL st9 7 a1 a4.toNatClampNeg) ((0 : Int64))) = ((0 : Int32)) then
          some ((0 : Int32), sI st9 20 a1 0 a3)
        else
          some ((0 : Int32), sI st9 20 a1 0 (gI st9 20 a1 0))
  else
  if a2 = (24 : Int32) then
    if r2 = ((0 : Int32)) then
      some ((12 : Int32), st3)
    else
      if (gI st3 19 a1 0) = ((4 : Int32)) then
        some ((11 : Int32), st3)
      else
        if (gI st3 18 a1 0) = ((12 : Int32)) then
          some ((11 : Int32), st3)
        else
          ck (ix (gI st3 19 a1 0) 4) <|
          ck (ix (gI (sI st3 22 a1 ((gI st3 19 a1 0).toNatClampNeg) a3) 19 a1 0) 4) <|
          some ((0 : Int32), sI (sI (sI st3 22 a1 ((gI st3 19 a1 0).toNatClampNeg) a3) 23 a1 ((gI (sI st3 22 a1 ((gI st3 19 a1 0).toNatClampNeg) a3) 19 a1 0).toNatClampNeg) (gI (sI st3 22 a1 ((gI st3 19 a1 0).toNatClampNeg) a3) 18 a1 0)) 19 a1 0 ((gI (sI (sI st3 22 a1 ((gI st3 19 a1 0).toNatClampNeg) a3) 23 a1 ((gI (sI st3 22 a1 ((gI st3 19 a1 0).toNatClampNeg) a3) 19 a1 0).toNatClampNeg) (gI (sI st3 22 a1 ((gI st3 19 a1 0).toNatClampNeg) a3) 18 a1 0)) 19 a1 0) + ((1 : Int32))))
  else
  if a2 = (25 : Int32) then
    if (gI st3 19 a1 0) = ((0 : Int32)) then
      some ((11 : Int32), st3)
    else
      some ((0 : Int32), sI st3 19 a1 0 ((gI st3 19 a1 0) - ((1 : Int32))))
  else
  if a2 = (26 : Int32) then
    bR (j_Mo_isIn a3 ((0 : Int32)) ((7 : Int32)) st3) fun r25 st26 =>
    if r25 = ((0 : Int32)) then
      some ((12 : Int32), st26)
    else
      some (((13 : Int32)) + a3, st26)
  else
  if a2 = (27 : Int32) then
    bR (j_MF_isNumber a1 a4 st3) fun r29 st30 =>
    if r29 = ((0 : Int32)) then
      bR (j_MF_isNumber a1 a4 (sL st30 4 a1 0 ((0 : Int64)))) fun r33 st34 =>
      if r33 = ((0 : Int32)) then
        some ((4 : Int32), st34)
      else
        some ((100 : Int32), st34)
    else
      ck (ix a4 13) <|
      bR (j_MF_isNumber a1 a4 (sL st30 4 a1 0 (gL st30 7 a1 a4.toNatClampNeg))) fun r38 st39 =>
      if r38 = ((0 : Int32)) then
        some ((4 : Int32), st39)
      else
        some ((100 : Int32), st39)
  else
  if a2 = (28 : Int32) then
    bR (j_MF_isNumber a1 a4 st3) fun r42 st43 =>
    if r42 = ((0 : Int32)) then
      j_Mo_went_L356 RAN a1 a4 st43
    else
      if (gI st43 7 0 0) = ((40 : Int32)) then
        j_Mo_went_L356 RAN a1 a4 st43
      else
        ck (ix (gI st43 7 0 0) 40) <|
        ck (ix a4 13) <|
        ck (ix (gI (sI st43 5 0 ((gI st43 7 0 0).toNatClampNeg) (gI st43 14 a1 0)) 7 0 0) 40) <|
        some ((0 : Int32), sI (sL (sI st43 5 0 ((gI st43 7 0 0).toNatClampNeg) (gI st43 14 a1 0)) 2 0 ((gI (sI st43 5 0 ((gI st43 7 0 0).toNatClampNeg) (gI st43 14 a1 0)) 7 0 0).toNatClampNeg) (gL (sI st43 5 0 ((gI st43 7 0 0).toNatClampNeg) (gI st43 14 a1 0)) 7 a1 a4.toNatClampNeg)) 7 0 0 ((gI (sL (sI st43 5 0 ((gI st43 7 0 0).toNatClampNeg) (gI st43 14 a1 0)) 2 0 ((gI (sI st43 5 0 ((gI st43 7 0 0).toNatClampNeg) (gI st43 14 a1 0)) 7 0 0).toNatClampNeg) (gL (sI st43 5 0 ((gI st43 7 0 0).toNatClampNeg) (gI st43 14 a1 0)) 7 a1 a4.toNatClampNeg)) 7 0 0) + ((1 : Int32))))
  else
  if a2 = (29 : Int32) then
    bR (j_Mo_calls RAN a1 a3 a4 st3) fun r54 st55 =>
    some (r54, st55)
  else
    if a2 = ((30 : Int32)) then
      ck (ix (gI st3 14 a1 0) 8) <|
      bV (j_MF_number a1 (gL st3 1 0 ((gI st3 14 a1 0).toNatClampNeg)) st3) fun st63 =>
      some ((0 : Int32), st63)
    else
      bV (j_MF_number a1 ((gI st3 15 a1 0).toInt64) st3) fun st59 =>
      some ((0 : Int32), st59)
set_option maxHeartbeats 4000000 in
theorem x_Mo_went_L356 {RAN : Nat → Int64 → CwS → Option (Int32 × CwS)} (hRx : ∀ (f : Nat) (v : Int64) (st : CwS) (r : Int32) (st' : CwS), RAN f v st = some (r, st') → Ext st st') {x1 : Nat} {x4 : Int32} {st : CwS} {r : Int32} {st' : CwS} (h : j_Mo_went_L356 RAN x1 x4 st = some (r, st')) : Ext st st' := by
  unfold j_Mo_went_L356 at h
  obtain ⟨r46, st47, h48, h⟩ := bR_some h
  refine Ext.trans (a := st) (b := st47) (by have t := x_MF_isNumber h48; exact t) ?_
  by_cases c49 : r46 = ((0 : Int32))
  · have h := ite_t c49 h
    obtain ⟨-, rfl⟩ := ret2 h; exact (show Ext st47 _ from Ext.refl st47)
  · have h := ite_f c49 h
    obtain ⟨-, rfl⟩ := ret2 h; exact (show Ext st47 _ from Ext.refl st47)
set_option maxHeartbeats 4000000 in
theorem x_Mo_went_L151 {RAN : Nat → Int64 → CwS → Option (Int32 × CwS)} (hRx : ∀ (f : Nat) (v : Int64) (st : CwS) (r : Int32) (st' : CwS), RAN f v st = some (r, st') → Ext st st') {x1 : Nat} {x4 : Int32} {st : CwS} {r : Int32} {st' : CwS} (h : j_Mo_went_L151 RAN x1 x4 st = some (r, st')) : Ext st st' := by
  unfold j_Mo_went_L151 at h
  obtain ⟨r12, st13, h14, h⟩ := bR_some h
  refine Ext.trans (a := st) (b := st13) (by have t := x_MF_isNumber h14; exact t) ?_
  by_cases c15 : r12 = ((0 : Int32))
  · have h := ite_t c15 h
    obtain ⟨-, rfl⟩ := ret2 h; exact (show Ext st13 _ from Ext.refl st13)
  · have h := ite_f c15 h
    obtain ⟨-, rfl⟩ := ret2 h; exact (show Ext st13 _ from Ext.refl st13)
set_option maxHeartbeats 4000000 in
theorem x_Mo_went {RAN : Nat → Int64 → CwS → Option (Int32 × CwS)} (hRx : ∀ (f : Nat) (v : Int64) (st : CwS) (r : Int32) (st' : CwS), RAN f v st = some (r, st') → Ext st st') {a1 : Nat} {a2 : Int32} {a3 : Int32} {a4 : Int32} {st0 : CwS} {r : Int32} {st' : CwS} (h : j_Mo_went RAN a1 a2 a3 a4 st0 = some (r, st')) : Ext st0 st' := by
  unfold j_Mo_went at h
  obtain ⟨-, h⟩ := ck_some h
  obtain ⟨r2, st3, h4, h⟩ := bR_some h
  refine Ext.trans (a := st0) (b := st3) (by have t := x_Mo_isIn h4; exact t) ?_
  by_cases c65 : a2 = (13 : Int32)
  · have h := ite_t c65 h
    by_cases c5 : r2 = ((0 : Int32))
    · have h := ite_t c5 h
      by_cases c6 : r2 = ((0 : Int32))
      · have h := ite_t c6 h
        obtain ⟨-, rfl⟩ := ret2 h; exact (show Ext st3 _ from Ext.refl st3)
      · have h := ite_f c6 h
        obtain ⟨-, rfl⟩ := ret2 h; exact (show Ext st3 _ from Ext.refl st3)
    · have h := ite_f c5 h
      by_cases c7 : r2 = ((0 : Int32))
      · have h := ite_t c7 h
        obtain ⟨-, rfl⟩ := ret2 h; exact (show Ext st3 _ from Ext.refl st3)
      · have h := ite_f c7 h
        obtain ⟨-, rfl⟩ := ret2 h; exact (show Ext st3 _ from Ext.refl st3)
  have h := ite_f c65 h
  by_cases c66 : a2 = (14 : Int32)
  · have h := ite_t c66 h
    obtain ⟨r8, st9, h10, h⟩ := bR_some h
    refine Ext.trans (a := st3) (b := st9) (by have t := x_MF_isNumber h10; exact t) ?_
    by_cases c11 : r8 = ((0 : Int32))
    · have h := ite_t c11 h
      have t := x_Mo_went_L151 hRx h; exact (show Ext st9 _ from t)
    · have h := ite_f c11 h
      by_cases c16 : r2 = ((0 : Int32))
      · have h := ite_t c16 h
        have t := x_Mo_went_L151 hRx h; exact (show Ext st9 _ from t)
      · have h := ite_f c16 h
        obtain ⟨-, h⟩ := ck_some h
        by_cases c18 : (lg_cmp (gL st9 7 a1 a4.toNatClampNeg) ((0 : Int64))) = ((0 : Int32))
        · have h := ite_t c18 h
          obtain ⟨-, rfl⟩ := ret2 h; exact (show Ext st9 _ from Ext.refl st9)
        · have h := ite_f c18 h
          obtain ⟨-, rfl⟩ := ret2 h; exact (show Ext st9 _ from Ext.refl st9)
  have h := ite_f c66 h
  by_cases c67 : a2 = (24 : Int32)
  · have h := ite_t c67 h
    by_cases c19 : r2 = ((0 : Int32))
    · have h := ite_t c19 h
      obtain ⟨-, rfl⟩ := ret2 h; exact (show Ext st3 _ from Ext.refl st3)
    · have h := ite_f c19 h
      by_cases c20 : (gI st3 19 a1 0) = ((4 : Int32))
      · have h := ite_t c20 h
        obtain ⟨-, rfl⟩ := ret2 h; exact (show Ext st3 _ from Ext.refl st3)
      · have h := ite_f c20 h
        by_cases c21 : (gI st3 18 a1 0) = ((12 : Int32))
        · have h := ite_t c21 h
          obtain ⟨-, rfl⟩ := ret2 h; exact (show Ext st3 _ from Ext.refl st3)
        · have h := ite_f c21 h
          obtain ⟨-, h⟩ := ck_some h
          obtain ⟨-, h⟩ := ck_some h
          obtain ⟨-, rfl⟩ := ret2 h; exact (show Ext st3 _ from Ext.refl st3)
  have h := ite_f c67 h
  by_cases c68 : a2 = (25 : Int32)
  · have h := ite_t c68 h
    by_cases c24 : (gI st3 19 a1 0) = ((0 : Int32))
    · have h := ite_t c24 h
      obtain ⟨-, rfl⟩ := ret2 h; exact (show Ext st3 _ from Ext.refl st3)
    · have h := ite_f c24 h
      obtain ⟨-, rfl⟩ := ret2 h; exact (show Ext st3 _ from Ext.refl st3)
  have h := ite_f c68 h
  by_cases c69 : a2 = (26 : Int32)
  · have h := ite_t c69 h
    obtain ⟨r25, st26, h27, h⟩ := bR_some h
    refine Ext.trans (a := st3) (b := st26) (by have t := x_Mo_isIn h27; exact t) ?_
    by_cases c28 : r25 = ((0 : Int32))
    · have h := ite_t c28 h
      obtain ⟨-, rfl⟩ := ret2 h; exact (show Ext st26 _ from Ext.refl st26)
    · have h := ite_f c28 h
      obtain ⟨-, rfl⟩ := ret2 h; exact (show Ext st26 _ from Ext.refl st26)
  have h := ite_f c69 h
  by_cases c70 : a2 = (27 : Int32)
  · have h := ite_t c70 h
    obtain ⟨r29, st30, h31, h⟩ := bR_some h
    refine Ext.trans (a := st3) (b := st30) (by have t := x_MF_isNumber h31; exact t) ?_
    by_cases c32 : r29 = ((0 : Int32))
    · have h := ite_t c32 h
      obtain ⟨r33, st34, h35, h⟩ := bR_some h
      refine Ext.trans (a := st30) (b := st34) (by have t := x_MF_isNumber h35; exact t) ?_
      by_cases c36 : r33 = ((0 : Int32))
      · have h := ite_t c36 h
        obtain ⟨-, rfl⟩ := ret2 h; exact (show Ext st34 _ from Ext.refl st34)
      · have h := ite_f c36 h
        obtain ⟨-, rfl⟩ := ret2 h; exact (show Ext st34 _ from Ext.refl st34)
    · have h := ite_f c32 h
      obtain ⟨-, h⟩ := ck_some h
      obtain ⟨r38, st39, h40, h⟩ := bR_some h
      refine Ext.trans (a := st30) (b := st39) (by have t := x_MF_isNumber h40; exact t) ?_
      by_cases c41 : r38 = ((0 : Int32))
      · have h := ite_t c41 h
        obtain ⟨-, rfl⟩ := ret2 h; exact (show Ext st39 _ from Ext.refl st39)
      · have h := ite_f c41 h
        obtain ⟨-, rfl⟩ := ret2 h; exact (show Ext st39 _ from Ext.refl st39)
  have h := ite_f c70 h
  by_cases c71 : a2 = (28 : Int32)
  · have h := ite_t c71 h
    obtain ⟨r42, st43, h44, h⟩ := bR_some h
    refine Ext.trans (a := st3) (b := st43) (by have t := x_MF_isNumber h44; exact t) ?_
    by_cases c45 : r42 = ((0 : Int32))
    · have h := ite_t c45 h
      have t := x_Mo_went_L356 hRx h; exact (show Ext st43 _ from t)
    · have h := ite_f c45 h
      by_cases c50 : (gI st43 7 0 0) = ((40 : Int32))
      · have h := ite_t c50 h
        have t := x_Mo_went_L356 hRx h; exact (show Ext st43 _ from t)
      · have h := ite_f c50 h
        obtain ⟨-, h⟩ := ck_some h
        obtain ⟨-, h⟩ := ck_some h
        obtain ⟨-, h⟩ := ck_some h
        obtain ⟨-, rfl⟩ := ret2 h; exact (show Ext st43 _ from Ext.refl st43)
  have h := ite_f c71 h
  by_cases c72 : a2 = (29 : Int32)
  · have h := ite_t c72 h
    obtain ⟨r54, st55, h56, h⟩ := bR_some h
    refine Ext.trans (a := st3) (b := st55) (by have t := x_Mo_calls hRx h56; exact t) ?_
    obtain ⟨-, rfl⟩ := ret2 h; exact (show Ext st55 _ from Ext.refl st55)
  have h := ite_f c72 h
  by_cases c57 : a2 = ((30 : Int32))
  · have h := ite_t c57 h
    obtain ⟨-, h⟩ := ck_some h
    obtain ⟨st63, h64, h⟩ := bV_some h
    refine Ext.trans (a := st3) (b := st63) (by have t := x_MF_number h64; exact t) ?_
    obtain ⟨-, rfl⟩ := ret2 h; exact (show Ext st63 _ from Ext.refl st63)
  · have h := ite_f c57 h
    obtain ⟨st59, h60, h⟩ := bV_some h
    refine Ext.trans (a := st3) (b := st59) (by have t := x_MF_number h60; exact t) ?_
    obtain ⟨-, rfl⟩ := ret2 h; exact (show Ext st59 _ from Ext.refl st59)
set_option maxHeartbeats 4000000 in
set_option maxRecDepth 100000 in
theorem c_Mo_went_L356 {l : Launch} {D : va_G} {A : Nat → Prop} {b0 : Nat} {cA : Nat → ClassId} {RAN : Nat → Int64 → CwS → Option (Int32 × CwS)} {d : Nat} (hRx : ∀ (f : Nat) (v : Int64) (st : CwS) (r : Int32) (st' : CwS), RAN f v st = some (r, st') → Ext st st') (hRc : ∀ (st0 : CwS) (f fa : Nat) (hf : rfF st0 f fa) (v : Int64) (r : Int32) (st' : CwS), RAN f v st0 = some (r, st') → Met l yX9_ran (wv yX9_ran cX9_ran 6 (some .int)) ({ frames := 5 * d + 10, cells := gR st' 101 2 - gR st0 101 2, slots := gR st' 101 3 - gR st0 101 3, locals := 139 * d + 200 }) (va_Pc [.ref b0, .ref fa, .long v] (rfU D A b0 cA st0)) (rfQi D A b0 cA r st') (gR st' 101 2 - gR st0 101 2) (gR st' 101 3 - gR st0 101 3) A) {p : Program} {e : Env} {s : State} {m : MethodId} {args : Array Value} {below : List Frame} {meth : Method} {c : Code} (S : CallFix p m c cX9_went 6 s args (wv yX9_went cX9_went 6 (some .int)) RX9) (hr : meth.sig.returnType = some .int) (hlocks : meth.locks = false) (hK : rfK D cA s) (r : Int32) (st' : CwS) (st0 : CwS) (st : CwS) (x1 : Nat) (fx1 : Nat) (hf_fx1 : rfF st x1 fx1) (x4 : Int32) (H : Heap) (locs : List Loc) (ls : Array Slot) (h : j_Mo_went_L356 RAN x1 x4 st = some (r, st')) (hO : rfO D A b0 cA s st H locs) (hl : lv_has ls 6 [(1, .ref fx1), (4, .int x4)]) (E_st : Ext st0 st) : W p l e ({ frames := 5 * d + 12, cells := gR st' 101 2 - gR st0 101 2, slots := gR st' 101 3 - gR st0 101 3, locals := 139 * d + 259 }) s m args below meth c H locs (gR st 101 2 - gR st0 101 2) (gR st 101 3 - gR st0 101 3) (MQ below (rfQi D A b0 cA r st') args s (gR st' 101 2 - gR st0 101 2) (gR st' 101 3 - gR st0 101 3) A) (F0 m 356 ls []) := by
  obtain ⟨hx, hb, hml, hown, hts⟩ := S
  have hgw := fun (w : Cond) (h : w ∈ gwW) => hts w (List.mem_cons_of_mem _ h)
  have k16 := hgw _ w_18ab44c4
  have k27 := hgw _ w_84119660
  have k33 := hgw _ w_4baf838d
  have k36 := hgw _ w_041da35b
  have k67 := hgw _ w_1c4b90a6
  have k70 := hgw _ w_3b4ec9b7
  have k73 := hgw _ w_f693c208
  have k80 := hgw _ w_4931c96f
  have k97 := hgw _ w_bb1741c6
  have k115 := hgw _ w_71340fd1
  have k118 := hgw _ w_03052ef3
  have k121 := hgw _ w_32a6cc1e
  have k124 := hgw _ w_4df17ecc
  have k128 := hgw _ w_e76b45dd
  have k134 := hgw _ w_f9b58dc7
  unfold j_Mo_went_L356 at h
  refine lv_aload_n hx hb dX9_went_356 rfl (lv_at hl 0 rfl) ?_
  refine lv_iload hx hb dX9_went_357 (lv_at hl 1 rfl) ?_
  have y_st47 : Ext st st' := by
    obtain ⟨r46, st47, h48, h⟩ := bR_some h
    refine Ext.trans (a := st) (b := st47) (by have t := x_MF_isNumber h48; exact t) ?_
    by_cases c49 : r46 = ((0 : Int32))
    · have h := ite_t c49 h
      obtain ⟨-, rfl⟩ := ret2 h; exact (show Ext st47 _ from Ext.refl st47)
    · have h := ite_f c49 h
      obtain ⟨-, rfl⟩ := ret2 h; exact (show Ext st47 _ from Ext.refl st47)
  obtain ⟨r46, st47, h48, h⟩ := bR_some h
  have x_st47 : Ext st st47 := by have t := x_MF_isNumber h48; exact t
  refine rf_calli (va_runV (As := [.int x4]) (rest := []) ⟨hx, hb, hml, hown, hts⟩ (c_MF_isNumber l D A b0 cA st x1 fx1 hf_fx1 x4 r46 st47 h48) (cwV 1 hts (gw_V w_c76bdf02 w_8ae0f39a w_9dc8e263 w_18ea82d2 w_a2deccac) rfl rfl rfl (by decide +kernel) ⟨by show 0 + 1 ≤ 5 * d + 12; omega, by show 8 + (2 + 11) + (0) ≤ 139 * d + 259; omega⟩) (rf_preF hf_fx1 hK hO) rfl rfl hl.1 rfl (lv_room (Nat.le_of_ble_eq_true rfl)) dX9_went_359 ⟨by have q1 := E_st; have q2 := y_st47; unfold Ext at q1 q2; show (gR st 101 2 - gR st0 101 2) + 0 ≤ gR st' 101 2 - gR st0 101 2; omega, by have q1 := E_st; have q2 := y_st47; unfold Ext at q1 q2; show (gR st 101 3 - gR st0 101 3) + 0 ≤ gR st' 101 3 - gR st0 101 3; omega⟩) hO (fun H locs hO => ?_)
  have hf_fx1 : rfF st47 x1 fx1 := rfF.ext (show rfF st x1 fx1 from hf_fx1) x_st47
  have E_st47 : Ext st0 st47 := E_st.trans x_st47
  refine W.widen (k := gR st47 101 2 - gR st0 101 2) (n := gR st47 101 3 - gR st0 101 3) (by have q1 := E_st; have q2 := x_st47; unfold Ext at q1 q2; omega) (by have q1 := E_st; have q2 := x_st47; unfold Ext at q1 q2; omega) ?_
  refine lv_if_ne (tgt := 369) hx hb dX9_went_362 (by decide) (fun c49 => ?_) (fun c49 => ?_)
  · have h := ite_f c49 h
    refine lv_bipush (v := 11) hx hb dX9_went_369 (by decide) ?_
    obtain ⟨rfl, rfl⟩ := ret2 h; exact rf_iret hx hb hr hlocks hO dX9_went_371
  · have h := ite_t c49 h
    refine lv_iconst (v := 4) hx hb dX9_went_365 (by decide) ?_
    refine lv_goto (tgt := 371) hx hb dX9_went_366 (by decide) ?_
    obtain ⟨rfl, rfl⟩ := ret2 h; exact rf_iret hx hb hr hlocks hO dX9_went_371
set_option maxHeartbeats 4000000 in
set_option maxRecDepth 100000 in
theorem c_Mo_went_L151 {l : Launch} {D : va_G} {A : Nat → Prop} {b0 : Nat} {cA : Nat → ClassId} {RAN : Nat → Int64 → CwS → Option (Int32 × CwS)} {d : Nat} (hRx : ∀ (f : Nat) (v : Int64) (st : CwS) (r : Int32) (st' : CwS), RAN f v st = some (r, st') → Ext st st') (hRc : ∀ (st0 : CwS) (f fa : Nat) (hf : rfF st0 f fa) (v : Int64) (r : Int32) (st' : CwS), RAN f v st0 = some (r, st') → Met l yX9_ran (wv yX9_ran cX9_ran 6 (some .int)) ({ frames := 5 * d + 10, cells := gR st' 101 2 - gR st0 101 2, slots := gR st' 101 3 - gR st0 101 3, locals := 139 * d + 200 }) (va_Pc [.ref b0, .ref fa, .long v] (rfU D A b0 cA st0)) (rfQi D A b0 cA r st') (gR st' 101 2 - gR st0 101 2) (gR st' 101 3 - gR st0 101 3) A) {p : Program} {e : Env} {s : State} {m : MethodId} {args : Array Value} {below : List Frame} {meth : Method} {c : Code} (S : CallFix p m c cX9_went 6 s args (wv yX9_went cX9_went 6 (some .int)) RX9) (hr : meth.sig.returnType = some .int) (hlocks : meth.locks = false) (hK : rfK D cA s) (r : Int32) (st' : CwS) (st0 : CwS) (st : CwS) (x1 : Nat) (fx1 : Nat) (hf_fx1 : rfF st x1 fx1) (x4 : Int32) (H : Heap) (locs : List Loc) (ls : Array Slot) (h : j_Mo_went_L151 RAN x1 x4 st = some (r, st')) (hO : rfO D A b0 cA s st H locs) (hl : lv_has ls 6 [(1, .ref fx1), (4, .int x4)]) (E_st : Ext st0 st) : W p l e ({ frames := 5 * d + 12, cells := gR st' 101 2 - gR st0 101 2, slots := gR st' 101 3 - gR st0 101 3, locals := 139 * d + 259 }) s m args below meth c H locs (gR st 101 2 - gR st0 101 2) (gR st 101 3 - gR st0 101 3) (MQ below (rfQi D A b0 cA r st') args s (gR st' 101 2 - gR st0 101 2) (gR st' 101 3 - gR st0 101 3) A) (F0 m 151 ls []) := by
  obtain ⟨hx, hb, hml, hown, hts⟩ := S
  have hgw := fun (w : Cond) (h : w ∈ gwW) => hts w (List.mem_cons_of_mem _ h)
  have k16 := hgw _ w_18ab44c4
  have k27 := hgw _ w_84119660
  have k33 := hgw _ w_4baf838d
  have k36 := hgw _ w_041da35b
  have k67 := hgw _ w_1c4b90a6
  have k70 := hgw _ w_3b4ec9b7
  have k73 := hgw _ w_f693c208
  have k80 := hgw _ w_4931c96f
  have k97 := hgw _ w_bb1741c6
  have k115 := hgw _ w_71340fd1
  have k118 := hgw _ w_03052ef3
  have k121 := hgw _ w_32a6cc1e
  have k124 := hgw _ w_4df17ecc
  have k128 := hgw _ w_e76b45dd
  have k134 := hgw _ w_f9b58dc7
  unfold j_Mo_went_L151 at h
  refine lv_aload_n hx hb dX9_went_151 rfl (lv_at hl 0 rfl) ?_
  refine lv_iload hx hb dX9_went_152 (lv_at hl 1 rfl) ?_
  have y_st13 : Ext st st' := by
    obtain ⟨r12, st13, h14, h⟩ := bR_some h
    refine Ext.trans (a := st) (b := st13) (by have t := x_MF_isNumber h14; exact t) ?_
    by_cases c15 : r12 = ((0 : Int32))
    · have h := ite_t c15 h
      obtain ⟨-, rfl⟩ := ret2 h; exact (show Ext st13 _ from Ext.refl st13)
    · have h := ite_f c15 h
      obtain ⟨-, rfl⟩ := ret2 h; exact (show Ext st13 _ from Ext.refl st13)
  obtain ⟨r12, st13, h14, h⟩ := bR_some h
  have x_st13 : Ext st st13 := by have t := x_MF_isNumber h14; exact t
  refine rf_calli (va_runV (As := [.int x4]) (rest := []) ⟨hx, hb, hml, hown, hts⟩ (c_MF_isNumber l D A b0 cA st x1 fx1 hf_fx1 x4 r12 st13 h14) (cwV 1 hts (gw_V w_c76bdf02 w_8ae0f39a w_9dc8e263 w_18ea82d2 w_a2deccac) rfl rfl rfl (by decide +kernel) ⟨by show 0 + 1 ≤ 5 * d + 12; omega, by show 8 + (2 + 11) + (0) ≤ 139 * d + 259; omega⟩) (rf_preF hf_fx1 hK hO) rfl rfl hl.1 rfl (lv_room (Nat.le_of_ble_eq_true rfl)) dX9_went_154 ⟨by have q1 := E_st; have q2 := y_st13; unfold Ext at q1 q2; show (gR st 101 2 - gR st0 101 2) + 0 ≤ gR st' 101 2 - gR st0 101 2; omega, by have q1 := E_st; have q2 := y_st13; unfold Ext at q1 q2; show (gR st 101 3 - gR st0 101 3) + 0 ≤ gR st' 101 3 - gR st0 101 3; omega⟩) hO (fun H locs hO => ?_)
  have hf_fx1 : rfF st13 x1 fx1 := rfF.ext (show rfF st x1 fx1 from hf_fx1) x_st13
  have E_st13 : Ext st0 st13 := E_st.trans x_st13
  refine W.widen (k := gR st13 101 2 - gR st0 101 2) (n := gR st13 101 3 - gR st0 101 3) (by have q1 := E_st; have q2 := x_st13; unfold Ext at q1 q2; omega) (by have q1 := E_st; have q2 := x_st13; unfold Ext at q1 q2; omega) ?_
  refine lv_if_ne (tgt := 164) hx hb dX9_went_157 (by decide) (fun c15 => ?_) (fun c15 => ?_)
  · have h := ite_f c15 h
    refine lv_bipush (v := 12) hx hb dX9_went_164 (by decide) ?_
    obtain ⟨rfl, rfl⟩ := ret2 h; exact rf_iret hx hb hr hlocks hO dX9_went_166
  · have h := ite_t c15 h
    refine lv_iconst (v := 4) hx hb dX9_went_160 (by decide) ?_
    refine lv_goto (tgt := 166) hx hb dX9_went_161 (by decide) ?_
    obtain ⟨rfl, rfl⟩ := ret2 h; exact rf_iret hx hb hr hlocks hO dX9_went_166
set_option maxHeartbeats 4000000 in
set_option maxRecDepth 100000 in
theorem c_Mo_went (l : Launch) (D : va_G) (A : Nat → Prop) (b0 : Nat) (cA : Nat → ClassId) (RAN : Nat → Int64 → CwS → Option (Int32 × CwS)) (d : Nat) (hRx : ∀ (f : Nat) (v : Int64) (st : CwS) (r : Int32) (st' : CwS), RAN f v st = some (r, st') → Ext st st') (hRc : ∀ (st0 : CwS) (f fa : Nat) (hf : rfF st0 f fa) (v : Int64) (r : Int32) (st' : CwS), RAN f v st0 = some (r, st') → Met l yX9_ran (wv yX9_ran cX9_ran 6 (some .int)) ({ frames := 5 * d + 10, cells := gR st' 101 2 - gR st0 101 2, slots := gR st' 101 3 - gR st0 101 3, locals := 139 * d + 200 }) (va_Pc [.ref b0, .ref fa, .long v] (rfU D A b0 cA st0)) (rfQi D A b0 cA r st') (gR st' 101 2 - gR st0 101 2) (gR st' 101 3 - gR st0 101 3) A) (st0 : CwS) (a1 : Nat) (fa1 : Nat) (hf_fa1 : rfF st0 a1 fa1) (a2 : Int32) (a3 : Int32) (a4 : Int32) (r : Int32) (st' : CwS) (h : j_Mo_went RAN a1 a2 a3 a4 st0 = some (r, st')) : Met l yX9_went (wv yX9_went cX9_went 6 (some .int)) ({ frames := 5 * d + 12, cells := gR st' 101 2 - gR st0 101 2, slots := gR st' 101 3 - gR st0 101 3, locals := 139 * d + 259 }) (va_Pc [.ref b0, .ref fa1, .int a2, .int a3, .int a4] (rfU D A b0 cA st0)) (rfQi D A b0 cA r st') (gR st' 101 2 - gR st0 101 2) (gR st' 101 3 - gR st0 101 3) A := by
  refine Met.ofW (cc := cX9_went) (maxL := 6) (ret := some .int) (by decide) rfl ?_
  intro p e s m args below meth c s₁ B hml hv
  obtain ⟨rfl, hP, hD, hz, hK⟩ := hv
  have hx := B.exec
  have hb := B.bytes
  have hr := B.returns
  have hts := atoms_spec (ws := wv yX9_went cX9_went 6 (some .int)) B.pre
  have hown : s.vm.findClass RX9 = some m.cls := findClass_of_methodNamed B.named
  have hlocks := B.notSynchronized
  have hO : rfO D A b0 cA s st0 s.heap [] := ⟨hP, hD, va_S.rf, hz⟩
  have hl := lv_entry ([.ref b0, .ref fa1, .int a2, .int a3, .int a4]) (n := 6) (Nat.le_of_ble_eq_true rfl)
  rw [lg_entry_eq]
  generalize (lg_sl ([.ref b0, .ref fa1, .int a2, .int a3, .int a4]) ++ List.replicate (6 - (lg_sl ([.ref b0, .ref fa1, .int a2, .int a3, .int a4])).length) Slot.unset).toArray = ls at hl ⊢
  have hl : lv_has ls 6 [(0, .ref b0), (1, .ref fa1), (2, .int a2), (3, .int a3), (4, .int a4)] := hl
  have hgw := fun (w : Cond) (h : w ∈ gwW) => hts w (List.mem_cons_of_mem _ h)
  have k16 := hgw _ w_18ab44c4
  have k27 := hgw _ w_84119660
  have k33 := hgw _ w_4baf838d
  have k36 := hgw _ w_041da35b
  have k67 := hgw _ w_1c4b90a6
  have k70 := hgw _ w_3b4ec9b7
  have k73 := hgw _ w_f693c208
  have k80 := hgw _ w_4931c96f
  have k97 := hgw _ w_bb1741c6
  have k115 := hgw _ w_71340fd1
  have k118 := hgw _ w_03052ef3
  have k121 := hgw _ w_32a6cc1e
  have k124 := hgw _ w_4df17ecc
  have k128 := hgw _ w_e76b45dd
  have k134 := hgw _ w_f9b58dc7
  unfold j_Mo_went at h
  have E_st0 := Ext.refl st0
  refine W.widen (k := gR st0 101 2 - gR st0 101 2) (n := gR st0 101 3 - gR st0 101 3) (Nat.zero_le _) (Nat.zero_le _) ?_
  refine lv_iload_n hx hb dX9_went_0 rfl (lv_at hl 3 rfl) ?_
  refine lv_iconst (v := 0) hx hb dX9_went_1 (by decide) ?_
  refine lv_aload_n hx hb dX9_went_2 rfl (lv_at hl 0 rfl) ?_
  refine gf_Mo_sizes hx hb hgw iwMo hown hK hO k16 dX9_went_3 ?_
  refine lv_bipush (v := 6) hx hb dX9_went_6 (by decide) ?_
  refine lv_aload_n hx hb dX9_went_8 rfl (lv_at hl 1 rfl) ?_
  refine gf_MF_contract hx hb hgw iwMF hown hK hO hf_fa1 k67 dX9_went_9 ?_
  refine lv_imul hx hb dX9_went_12 ?_
  refine lv_aload_n hx hb dX9_went_13 rfl (lv_at hl 1 rfl) ?_
  refine gf_MF_behaviour hx hb hgw iwMF hown hK hO hf_fa1 k70 dX9_went_14 ?_
  refine lv_iadd hx hb dX9_went_17 ?_
  obtain ⟨hc1, h⟩ := ck_some h
  refine al_MSizes hx hb hK hO hc1 dX9_went_18 ?_
  have y_st3 : Ext st0 st' := by
    obtain ⟨r2, st3, h4, h⟩ := bR_some h
    refine Ext.trans (a := st0) (b := st3) (by have t := x_Mo_isIn h4; exact t) ?_
    by_cases c73 : a2 = (13 : Int32)
    · have h := ite_t c73 h
      by_cases c5 : r2 = ((0 : Int32))
      · have h := ite_t c5 h
        by_cases c6 : r2 = ((0 : Int32))
        · have h := ite_t c6 h
          obtain ⟨-, rfl⟩ := ret2 h; exact (show Ext st3 _ from Ext.refl st3)
        · have h := ite_f c6 h
          obtain ⟨-, rfl⟩ := ret2 h; exact (show Ext st3 _ from Ext.refl st3)
      · have h := ite_f c5 h
        by_cases c7 : r2 = ((0 : Int32))
        · have h := ite_t c7 h
          obtain ⟨-, rfl⟩ := ret2 h; exact (show Ext st3 _ from Ext.refl st3)
        · have h := ite_f c7 h
          obtain ⟨-, rfl⟩ := ret2 h; exact (show Ext st3 _ from Ext.refl st3)
    have h := ite_f c73 h
    by_cases c74 : a2 = (14 : Int32)
    · have h := ite_t c74 h
      obtain ⟨r8, st9, h10, h⟩ := bR_some h
      refine Ext.trans (a := st3) (b := st9) (by have t := x_MF_isNumber h10; exact t) ?_
      by_cases c11 : r8 = ((0 : Int32))
      · have h := ite_t c11 h
        have t := x_Mo_went_L151 hRx h; exact (show Ext st9 _ from t)
      · have h := ite_f c11 h
        by_cases c16 : r2 = ((0 : Int32))
        · have h := ite_t c16 h
          have t := x_Mo_went_L151 hRx h; exact (show Ext st9 _ from t)
        · have h := ite_f c16 h
          obtain ⟨-, h⟩ := ck_some h
          by_cases c18 : (lg_cmp (gL st9 7 a1 a4.toNatClampNeg) ((0 : Int64))) = ((0 : Int32))
          · have h := ite_t c18 h
            obtain ⟨-, rfl⟩ := ret2 h; exact (show Ext st9 _ from Ext.refl st9)
          · have h := ite_f c18 h
            obtain ⟨-, rfl⟩ := ret2 h; exact (show Ext st9 _ from Ext.refl st9)
    have h := ite_f c74 h
    by_cases c75 : a2 = (24 : Int32)
    · have h := ite_t c75 h
      by_cases c19 : r2 = ((0 : Int32))
      · have h := ite_t c19 h
        obtain ⟨-, rfl⟩ := ret2 h; exact (show Ext st3 _ from Ext.refl st3)
      · have h := ite_f c19 h
        by_cases c20 : (gI st3 19 a1 0) = ((4 : Int32))
        · have h := ite_t c20 h
          obtain ⟨-, rfl⟩ := ret2 h; exact (show Ext st3 _ from Ext.refl st3)
        · have h := ite_f c20 h
          by_cases c21 : (gI st3 18 a1 0) = ((12 : Int32))
          · have h := ite_t c21 h
            obtain ⟨-, rfl⟩ := ret2 h; exact (show Ext st3 _ from Ext.refl st3)
          · have h := ite_f c21 h
            obtain ⟨-, h⟩ := ck_some h
            obtain ⟨-, h⟩ := ck_some h
            obtain ⟨-, rfl⟩ := ret2 h; exact (show Ext st3 _ from Ext.refl st3)
    have h := ite_f c75 h
    by_cases c76 : a2 = (25 : Int32)
    · have h := ite_t c76 h
      by_cases c24 : (gI st3 19 a1 0) = ((0 : Int32))
      · have h := ite_t c24 h
        obtain ⟨-, rfl⟩ := ret2 h; exact (show Ext st3 _ from Ext.refl st3)
      · have h := ite_f c24 h
        obtain ⟨-, rfl⟩ := ret2 h; exact (show Ext st3 _ from Ext.refl st3)
    have h := ite_f c76 h
    by_cases c77 : a2 = (26 : Int32)
    · have h := ite_t c77 h
      obtain ⟨r25, st26, h27, h⟩ := bR_some h
      refine Ext.trans (a := st3) (b := st26) (by have t := x_Mo_isIn h27; exact t) ?_
      by_cases c28 : r25 = ((0 : Int32))
      · have h := ite_t c28 h
        obtain ⟨-, rfl⟩ := ret2 h; exact (show Ext st26 _ from Ext.refl st26)
      · have h := ite_f c28 h
        obtain ⟨-, rfl⟩ := ret2 h; exact (show Ext st26 _ from Ext.refl st26)
    have h := ite_f c77 h
    by_cases c78 : a2 = (27 : Int32)
    · have h := ite_t c78 h
      obtain ⟨r29, st30, h31, h⟩ := bR_some h
      refine Ext.trans (a := st3) (b := st30) (by have t := x_MF_isNumber h31; exact t) ?_
      by_cases c32 : r29 = ((0 : Int32))
      · have h := ite_t c32 h
        obtain ⟨r33, st34, h35, h⟩ := bR_some h
        refine Ext.trans (a := st30) (b := st34) (by have t := x_MF_isNumber h35; exact t) ?_
        by_cases c36 : r33 = ((0 : Int32))
        · have h := ite_t c36 h
          obtain ⟨-, rfl⟩ := ret2 h; exact (show Ext st34 _ from Ext.refl st34)
        · have h := ite_f c36 h
          obtain ⟨-, rfl⟩ := ret2 h; exact (show Ext st34 _ from Ext.refl st34)
      · have h := ite_f c32 h
        obtain ⟨-, h⟩ := ck_some h
        obtain ⟨r38, st39, h40, h⟩ := bR_some h
        refine Ext.trans (a := st30) (b := st39) (by have t := x_MF_isNumber h40; exact t) ?_
        by_cases c41 : r38 = ((0 : Int32))
        · have h := ite_t c41 h
          obtain ⟨-, rfl⟩ := ret2 h; exact (show Ext st39 _ from Ext.refl st39)
        · have h := ite_f c41 h
          obtain ⟨-, rfl⟩ := ret2 h; exact (show Ext st39 _ from Ext.refl st39)
    have h := ite_f c78 h
    by_cases c79 : a2 = (28 : Int32)
    · have h := ite_t c79 h
      obtain ⟨r42, st43, h44, h⟩ := bR_some h
      refine Ext.trans (a := st3) (b := st43) (by have t := x_MF_isNumber h44; exact t) ?_
      by_cases c45 : r42 = ((0 : Int32))
      · have h := ite_t c45 h
        have t := x_Mo_went_L356 hRx h; exact (show Ext st43 _ from t)
      · have h := ite_f c45 h
        by_cases c50 : (gI st43 7 0 0) = ((40 : Int32))
        · have h := ite_t c50 h
          have t := x_Mo_went_L356 hRx h; exact (show Ext st43 _ from t)
        · have h := ite_f c50 h
          obtain ⟨-, h⟩ := ck_some h
          obtain ⟨-, h⟩ := ck_some h
          obtain ⟨-, h⟩ := ck_some h
          obtain ⟨-, rfl⟩ := ret2 h; exact (show Ext st43 _ from Ext.refl st43)
    have h := ite_f c79 h
    by_cases c80 : a2 = (29 : Int32)
    · have h := ite_t c80 h
      obtain ⟨r54, st55, h56, h⟩ := bR_some h
      refine Ext.trans (a := st3) (b := st55) (by have t := x_Mo_calls hRx h56; exact t) ?_
      obtain ⟨-, rfl⟩ := ret2 h; exact (show Ext st55 _ from Ext.refl st55)
    have h := ite_f c80 h
    by_cases c57 : a2 = ((30 : Int32))
    · have h := ite_t c57 h
      obtain ⟨-, h⟩ := ck_some h
      obtain ⟨st63, h64, h⟩ := bV_some h
      refine Ext.trans (a := st3) (b := st63) (by have t := x_MF_number h64; exact t) ?_
      obtain ⟨-, rfl⟩ := ret2 h; exact (show Ext st63 _ from Ext.refl st63)
    · have h := ite_f c57 h
      obtain ⟨st59, h60, h⟩ := bV_some h
      refine Ext.trans (a := st3) (b := st59) (by have t := x_MF_number h60; exact t) ?_
      obtain ⟨-, rfl⟩ := ret2 h; exact (show Ext st59 _ from Ext.refl st59)
  obtain ⟨r2, st3, h4, h⟩ := bR_some h
  have x_st3 : Ext st0 st3 := by have t := x_Mo_isIn h4; exact t
  refine rf_calli (va_runS (As := [.int a3, .int ((0 : Int32)), .int (gI st0 2 0 (((((6 : Int32)) * (gI st0 14 a1 0)) + (gI st0 16 a1 0)).toNatClampNeg))]) (rest := []) ⟨hx, hb, hml, hown, hts⟩ (c_Mo_isIn l D A b0 cA st0 a3 ((0 : Int32)) (gI st0 2 0 (((((6 : Int32)) * (gI st0 14 a1 0)) + (gI st0 16 a1 0)).toNatClampNeg)) r2 st3 h4) (va_cwS 3 hts (gw_S w_b104d635 w_dc566d63 w_18f41a94 w_c8674231) rfl rfl rfl (by decide +kernel) ⟨by show 0 + 1 ≤ 5 * d + 12; omega, by show 8 + (3 + 11) + (0) ≤ 139 * d + 259; omega⟩) (rf_preS hK hO) rfl rfl hl.1 rfl (lv_room (Nat.le_of_ble_eq_true rfl)) dX9_went_19 ⟨by have q1 := E_st0; have q2 := y_st3; unfold Ext at q1 q2; show (gR st0 101 2 - gR st0 101 2) + 0 ≤ gR st' 101 2 - gR st0 101 2; omega, by have q1 := E_st0; have q2 := y_st3; unfold Ext at q1 q2; show (gR st0 101 3 - gR st0 101 3) + 0 ≤ gR st' 101 3 - gR st0 101 3; omega⟩) hO (fun H locs hO => ?_)
  have hf_fa1 : rfF st3 a1 fa1 := rfF.ext (show rfF st0 a1 fa1 from hf_fa1) x_st3
  have E_st3 : Ext st0 st3 := E_st0.trans x_st3
  refine W.widen (k := gR st3 101 2 - gR st0 101 2) (n := gR st3 101 3 - gR st0 101 3) (by have q1 := E_st0; have q2 := x_st3; unfold Ext at q1 q2; omega) (by have q1 := E_st0; have q2 := x_st3; unfold Ext at q1 q2; omega) ?_
  refine lv_istore (lv' := [(5, .int r2), (0, .ref b0), (1, .ref fa1), (2, .int a2), (3, .int a3), (4, .int a4)]) hx hb dX9_went_22 hl (by decide) rfl (fun ls hl => ?_)
  refine lv_iload_n hx hb dX9_went_24 rfl (lv_at hl 3 rfl) ?_
  by_cases c81 : a2 = (13 : Int32)
  · have h := ite_t c81 h
    refine lv_tableIn (tgt := 108) hx hb dX9_went_25 (by rw [c81]; decide) (by rw [c81]; decide) (by rw [c81]; rfl) (by decide) ?_
    refine lv_aload_n hx hb dX9_went_108 rfl (lv_at hl 2 rfl) ?_
    refine lv_iload hx hb dX9_went_109 (lv_at hl 0 rfl) ?_
    refine lv_if_eq (tgt := 118) hx hb dX9_went_111 (by decide) (fun c5 => ?_) (fun c5 => ?_)
    · have h := ite_t c5 h
      refine lv_aload_n hx hb dX9_went_118 rfl (lv_at hl 2 rfl) ?_
      refine gf_MF_at hx hb hgw iwMF hown hK hO hf_fa1 k73 dX9_went_119 ?_
      refine pf_MF_at hx hb hgw iwMF hown hK hO hf_fa1 k73 dX9_went_122 (fun H locs hO => ?_)
      refine lv_iload hx hb dX9_went_125 (lv_at hl 0 rfl) ?_
      refine lv_if_eq (tgt := 134) hx hb dX9_went_127 (by decide) (fun c6 => ?_) (fun c6 => ?_)
      · have h := ite_t c6 h
        refine lv_bipush (v := 12) hx hb dX9_went_134 (by decide) ?_
        obtain ⟨rfl, rfl⟩ := ret2 h; exact rf_iret hx hb hr hlocks hO dX9_went_136
      · have h := ite_f c6 h
        refine lv_iconst (v := 0) hx hb dX9_went_130 (by decide) ?_
        refine lv_goto (tgt := 136) hx hb dX9_went_131 (by decide) ?_
        obtain ⟨rfl, rfl⟩ := ret2 h; exact rf_iret hx hb hr hlocks hO dX9_went_136
    · have h := ite_f c5 h
      refine lv_iload_n hx hb dX9_went_114 rfl (lv_at hl 4 rfl) ?_
      refine lv_goto (tgt := 122) hx hb dX9_went_115 (by decide) ?_
      refine pf_MF_at hx hb hgw iwMF hown hK hO hf_fa1 k73 dX9_went_122 (fun H locs hO => ?_)
      refine lv_iload hx hb dX9_went_125 (lv_at hl 0 rfl) ?_
      refine lv_if_eq (tgt := 134) hx hb dX9_went_127 (by decide) (fun c7 => ?_) (fun c7 => ?_)
      · have h := ite_t c7 h
        refine lv_bipush (v := 12) hx hb dX9_went_134 (by decide) ?_
        obtain ⟨rfl, rfl⟩ := ret2 h; exact rf_iret hx hb hr hlocks hO dX9_went_136
      · have h := ite_f c7 h
        refine lv_iconst (v := 0) hx hb dX9_went_130 (by decide) ?_
        refine lv_goto (tgt := 136) hx hb dX9_went_131 (by decide) ?_
        obtain ⟨rfl, rfl⟩ := ret2 h; exact rf_iret hx hb hr hlocks hO dX9_went_136
  have h := ite_f c81 h
  by_cases c82 : a2 = (14 : Int32)
  · have h := ite_t c82 h
    refine lv_tableIn (tgt := 137) hx hb dX9_went_25 (by rw [c82]; decide) (by rw [c82]; decide) (by rw [c82]; rfl) (by decide) ?_
    refine lv_aload_n hx hb dX9_went_137 rfl (lv_at hl 2 rfl) ?_
    refine lv_iload hx hb dX9_went_138 (lv_at hl 5 rfl) ?_
    have y_st9 : Ext st3 st' := by
      obtain ⟨r8, st9, h10, h⟩ := bR_some h
      refine Ext.trans (a := st3) (b := st9) (by have t := x_MF_isNumber h10; exact t) ?_
      by_cases c11 : r8 = ((0 : Int32))
      · have h := ite_t c11 h
        have t := x_Mo_went_L151 hRx h; exact (show Ext st9 _ from t)
      · have h := ite_f c11 h
        by_cases c16 : r2 = ((0 : Int32))
        · have h := ite_t c16 h
          have t := x_Mo_went_L151 hRx h; exact (show Ext st9 _ from t)
        · have h := ite_f c16 h
          obtain ⟨-, h⟩ := ck_some h
          by_cases c18 : (lg_cmp (gL st9 7 a1 a4.toNatClampNeg) ((0 : Int64))) = ((0 : Int32))
          · have h := ite_t c18 h
            obtain ⟨-, rfl⟩ := ret2 h; exact (show Ext st9 _ from Ext.refl st9)
          · have h := ite_f c18 h
            obtain ⟨-, rfl⟩ := ret2 h; exact (show Ext st9 _ from Ext.refl st9)
    obtain ⟨r8, st9, h10, h⟩ := bR_some h
    have x_st9 : Ext st3 st9 := by have t := x_MF_isNumber h10; exact t
    refine rf_calli (va_runV (As := [.int a4]) (rest := []) ⟨hx, hb, hml, hown, hts⟩ (c_MF_isNumber l D A b0 cA st3 a1 fa1 hf_fa1 a4 r8 st9 h10) (cwV 1 hts (gw_V w_c76bdf02 w_8ae0f39a w_9dc8e263 w_18ea82d2 w_a2deccac) rfl rfl rfl (by decide +kernel) ⟨by show 0 + 1 ≤ 5 * d + 12; omega, by show 8 + (2 + 11) + (0) ≤ 139 * d + 259; omega⟩) (rf_preF hf_fa1 hK hO) rfl rfl hl.1 rfl (lv_room (Nat.le_of_ble_eq_true rfl)) dX9_went_140 ⟨by have q1 := E_st3; have q2 := y_st9; unfold Ext at q1 q2; show (gR st3 101 2 - gR st0 101 2) + 0 ≤ gR st' 101 2 - gR st0 101 2; omega, by have q1 := E_st3; have q2 := y_st9; unfold Ext at q1 q2; show (gR st3 101 3 - gR st0 101 3) + 0 ≤ gR st' 101 3 - gR st0 101 3; omega⟩) hO (fun H locs hO => ?_)
    have hf_fa1 : rfF st9 a1 fa1 := rfF.ext (show rfF st3 a1 fa1 from hf_fa1) x_st9
    have E_st9 : Ext st0 st9 := E_st3.trans x_st9
    refine W.widen (k := gR st9 101 2 - gR st0 101 2) (n := gR st9 101 3 - gR st0 101 3) (by have q1 := E_st3; have q2 := x_st9; unfold Ext at q1 q2; omega) (by have q1 := E_st3; have q2 := x_st9; unfold Ext at q1 q2; omega) ?_
    refine lv_if_eq (tgt := 151) hx hb dX9_went_143 (by decide) (fun c11 => ?_) (fun c11 => ?_)
    · have h := ite_t c11 h
      exact c_Mo_went_L151 hRx hRc ⟨hx, hb, hml, hown, hts⟩ hr hlocks hK r st' st0 st9 a1 fa1 hf_fa1 a4 _ _ _ h hO (lv_sub hl [2, 5] rfl) (show Ext st0 _ from E_st9)
    · have h := ite_f c11 h
      refine lv_iload hx hb dX9_went_146 (lv_at hl 0 rfl) ?_
      refine lv_if_ne (tgt := 167) hx hb dX9_went_148 (by decide) (fun c16 => ?_) (fun c16 => ?_)
      · have h := ite_f c16 h
        refine lv_aload_n hx hb dX9_went_167 rfl (lv_at hl 2 rfl) ?_
        refine lv_aload_n hx hb dX9_went_168 rfl (lv_at hl 2 rfl) ?_
        refine gf_MF_n hx hb hgw iwMF hown hK hO hf_fa1 k97 dX9_went_169 ?_
        refine lv_iload hx hb dX9_went_172 (lv_at hl 5 rfl) ?_
        obtain ⟨hc17, h⟩ := ck_some h
        refine al_MN hx hb hK hO hf_fa1 hc17 dX9_went_174 ?_
        refine lv_lconst (v := 0) hx hb dX9_went_175 (by decide) ?_
        refine W.lcmp hx hb dX9_went_176 ?_
        refine lv_if_ne (tgt := 184) hx hb dX9_went_177 (by decide) (fun c18 => ?_) (fun c18 => ?_)
        · have h := ite_f c18 h
          refine lv_aload_n hx hb dX9_went_184 rfl (lv_at hl 2 rfl) ?_
          refine gf_MF_at hx hb hgw iwMF hown hK hO hf_fa1 k73 dX9_went_185 ?_
          refine pf_MF_at hx hb hgw iwMF hown hK hO hf_fa1 k73 dX9_went_188 (fun H locs hO => ?_)
          refine lv_iconst (v := 0) hx hb dX9_went_191 (by decide) ?_
          obtain ⟨rfl, rfl⟩ := ret2 h; exact rf_iret hx hb hr hlocks hO dX9_went_192
        · have h := ite_t c18 h
          refine lv_iload_n hx hb dX9_went_180 rfl (lv_at hl 4 rfl) ?_
          refine lv_goto (tgt := 188) hx hb dX9_went_181 (by decide) ?_
          refine pf_MF_at hx hb hgw iwMF hown hK hO hf_fa1 k73 dX9_went_188 (fun H locs hO => ?_)
          refine lv_iconst (v := 0) hx hb dX9_went_191 (by decide) ?_
          obtain ⟨rfl, rfl⟩ := ret2 h; exact rf_iret hx hb hr hlocks hO dX9_went_192
      · have h := ite_t c16 h
        exact c_Mo_went_L151 hRx hRc ⟨hx, hb, hml, hown, hts⟩ hr hlocks hK r st' st0 st9 a1 fa1 hf_fa1 a4 _ _ _ h hO (lv_sub hl [2, 5] rfl) (show Ext st0 _ from E_st9)
  have h := ite_f c82 h
  by_cases c83 : a2 = (24 : Int32)
  · have h := ite_t c83 h
    refine lv_tableIn (tgt := 193) hx hb dX9_went_25 (by rw [c83]; decide) (by rw [c83]; decide) (by rw [c83]; rfl) (by decide) ?_
    refine lv_iload hx hb dX9_went_193 (lv_at hl 0 rfl) ?_
    refine lv_if_ne (tgt := 201) hx hb dX9_went_195 (by decide) (fun c19 => ?_) (fun c19 => ?_)
    · have h := ite_f c19 h
      refine lv_aload_n hx hb dX9_went_201 rfl (lv_at hl 2 rfl) ?_
      refine gf_MF_handlers hx hb hgw iwMF hown hK hO hf_fa1 k115 dX9_went_202 ?_
      refine lv_iconst (v := 4) hx hb dX9_went_205 (by decide) ?_
      refine lv_icmp_eq (tgt := 218) hx hb dX9_went_206 (by decide) (fun c20 => ?_) (fun c20 => ?_)
      · have h := ite_t c20 h
        refine lv_bipush (v := 11) hx hb dX9_went_218 (by decide) ?_
        obtain ⟨rfl, rfl⟩ := ret2 h; exact rf_iret hx hb hr hlocks hO dX9_went_220
      · have h := ite_f c20 h
        refine lv_aload_n hx hb dX9_went_209 rfl (lv_at hl 2 rfl) ?_
        refine gf_MF_high hx hb hgw iwMF hown hK hO hf_fa1 k80 dX9_went_210 ?_
        refine lv_bipush (v := 12) hx hb dX9_went_213 (by decide) ?_
        refine lv_icmp_ne (tgt := 221) hx hb dX9_went_215 (by decide) (fun c21 => ?_) (fun c21 => ?_)
        · have h := ite_f c21 h
          refine lv_aload_n hx hb dX9_went_221 rfl (lv_at hl 2 rfl) ?_
          refine gf_MF_handlerSteps hx hb hgw iwMF hown hK hO hf_fa1 k118 dX9_went_222 ?_
          refine lv_aload_n hx hb dX9_went_225 rfl (lv_at hl 2 rfl) ?_
          refine gf_MF_handlers hx hb hgw iwMF hown hK hO hf_fa1 k115 dX9_went_226 ?_
          refine lv_iload_n hx hb dX9_went_229 rfl (lv_at hl 4 rfl) ?_
          obtain ⟨hc22, h⟩ := ck_some h
          refine as_MHSteps hx hb hK hO hf_fa1 hc22 dX9_went_230 (fun H locs hO => ?_)
          refine lv_aload_n hx hb dX9_went_231 rfl (lv_at hl 2 rfl) ?_
          refine gf_MF_handlerHighs hx hb hgw iwMF hown hK hO hf_fa1 k121 dX9_went_232 ?_
          refine lv_aload_n hx hb dX9_went_235 rfl (lv_at hl 2 rfl) ?_
          refine gf_MF_handlers hx hb hgw iwMF hown hK hO hf_fa1 k115 dX9_went_236 ?_
          refine lv_aload_n hx hb dX9_went_239 rfl (lv_at hl 2 rfl) ?_
          refine gf_MF_high hx hb hgw iwMF hown hK hO hf_fa1 k80 dX9_went_240 ?_
          obtain ⟨hc23, h⟩ := ck_some h
          refine as_MHHighs hx hb hK hO hf_fa1 hc23 dX9_went_243 (fun H locs hO => ?_)
          refine lv_aload_n hx hb dX9_went_244 rfl (lv_at hl 2 rfl) ?_
          refine lv_dup hx hb dX9_went_245 rfl ?_
          refine gf_MF_handlers hx hb hgw iwMF hown hK hO hf_fa1 k115 dX9_went_246 ?_
          refine lv_iconst (v := 1) hx hb dX9_went_249 (by decide) ?_
          refine lv_iadd hx hb dX9_went_250 ?_
          refine pf_MF_handlers hx hb hgw iwMF hown hK hO hf_fa1 k115 dX9_went_251 (fun H locs hO => ?_)
          refine lv_iconst (v := 0) hx hb dX9_went_254 (by decide) ?_
          obtain ⟨rfl, rfl⟩ := ret2 h; exact rf_iret hx hb hr hlocks hO dX9_went_255
        · have h := ite_t c21 h
          refine lv_bipush (v := 11) hx hb dX9_went_218 (by decide) ?_
          obtain ⟨rfl, rfl⟩ := ret2 h; exact rf_iret hx hb hr hlocks hO dX9_went_220
    · have h := ite_t c19 h
      refine lv_bipush (v := 12) hx hb dX9_went_198 (by decide) ?_
      obtain ⟨rfl, rfl⟩ := ret2 h; exact rf_iret hx hb hr hlocks hO dX9_went_200
  have h := ite_f c83 h
  by_cases c84 : a2 = (25 : Int32)
  · have h := ite_t c84 h
    refine lv_tableIn (tgt := 256) hx hb dX9_went_25 (by rw [c84]; decide) (by rw [c84]; decide) (by rw [c84]; rfl) (by decide) ?_
    refine lv_aload_n hx hb dX9_went_256 rfl (lv_at hl 2 rfl) ?_
    refine gf_MF_handlers hx hb hgw iwMF hown hK hO hf_fa1 k115 dX9_went_257 ?_
    refine lv_if_ne (tgt := 266) hx hb dX9_went_260 (by decide) (fun c24 => ?_) (fun c24 => ?_)
    · have h := ite_f c24 h
      refine lv_aload_n hx hb dX9_went_266 rfl (lv_at hl 2 rfl) ?_
      refine lv_dup hx hb dX9_went_267 rfl ?_
      refine gf_MF_handlers hx hb hgw iwMF hown hK hO hf_fa1 k115 dX9_went_268 ?_
      refine lv_iconst (v := 1) hx hb dX9_went_271 (by decide) ?_
      refine lv_isub hx hb dX9_went_272 ?_
      refine pf_MF_handlers hx hb hgw iwMF hown hK hO hf_fa1 k115 dX9_went_273 (fun H locs hO => ?_)
      refine lv_iconst (v := 0) hx hb dX9_went_276 (by decide) ?_
      obtain ⟨rfl, rfl⟩ := ret2 h; exact rf_iret hx hb hr hlocks hO dX9_went_277
    · have h := ite_t c24 h
      refine lv_bipush (v := 11) hx hb dX9_went_263 (by decide) ?_
      obtain ⟨rfl, rfl⟩ := ret2 h; exact rf_iret hx hb hr hlocks hO dX9_went_265
  have h := ite_f c84 h
  by_cases c85 : a2 = (26 : Int32)
  · have h := ite_t c85 h
    refine lv_tableIn (tgt := 278) hx hb dX9_went_25 (by rw [c85]; decide) (by rw [c85]; decide) (by rw [c85]; rfl) (by decide) ?_
    refine lv_iload_n hx hb dX9_went_278 rfl (lv_at hl 4 rfl) ?_
    refine lv_iconst (v := 0) hx hb dX9_went_279 (by decide) ?_
    refine lv_bipush (v := 7) hx hb dX9_went_280 (by decide) ?_
    have y_st26 : Ext st3 st' := by
      obtain ⟨r25, st26, h27, h⟩ := bR_some h
      refine Ext.trans (a := st3) (b := st26) (by have t := x_Mo_isIn h27; exact t) ?_
      by_cases c28 : r25 = ((0 : Int32))
      · have h := ite_t c28 h
        obtain ⟨-, rfl⟩ := ret2 h; exact (show Ext st26 _ from Ext.refl st26)
      · have h := ite_f c28 h
        obtain ⟨-, rfl⟩ := ret2 h; exact (show Ext st26 _ from Ext.refl st26)
    obtain ⟨r25, st26, h27, h⟩ := bR_some h
    have x_st26 : Ext st3 st26 := by have t := x_Mo_isIn h27; exact t
    refine rf_calli (va_runS (As := [.int a3, .int ((0 : Int32)), .int ((7 : Int32))]) (rest := []) ⟨hx, hb, hml, hown, hts⟩ (c_Mo_isIn l D A b0 cA st3 a3 ((0 : Int32)) ((7 : Int32)) r25 st26 h27) (va_cwS 3 hts (gw_S w_b104d635 w_dc566d63 w_18f41a94 w_c8674231) rfl rfl rfl (by decide +kernel) ⟨by show 0 + 1 ≤ 5 * d + 12; omega, by show 8 + (3 + 11) + (0) ≤ 139 * d + 259; omega⟩) (rf_preS hK hO) rfl rfl hl.1 rfl (lv_room (Nat.le_of_ble_eq_true rfl)) dX9_went_282 ⟨by have q1 := E_st3; have q2 := y_st26; unfold Ext at q1 q2; show (gR st3 101 2 - gR st0 101 2) + 0 ≤ gR st' 101 2 - gR st0 101 2; omega, by have q1 := E_st3; have q2 := y_st26; unfold Ext at q1 q2; show (gR st3 101 3 - gR st0 101 3) + 0 ≤ gR st' 101 3 - gR st0 101 3; omega⟩) hO (fun H locs hO => ?_)
    have hf_fa1 : rfF st26 a1 fa1 := rfF.ext (show rfF st3 a1 fa1 from hf_fa1) x_st26
    have E_st26 : Ext st0 st26 := E_st3.trans x_st26
    refine W.widen (k := gR st26 101 2 - gR st0 101 2) (n := gR st26 101 3 - gR st0 101 3) (by have q1 := E_st3; have q2 := x_st26; unfold Ext at q1 q2; omega) (by have q1 := E_st3; have q2 := x_st26; unfold Ext at q1 q2; omega) ?_
    refine lv_if_eq (tgt := 295) hx hb dX9_went_285 (by decide) (fun c28 => ?_) (fun c28 => ?_)
    · have h := ite_t c28 h
      refine lv_bipush (v := 12) hx hb dX9_went_295 (by decide) ?_
      obtain ⟨rfl, rfl⟩ := ret2 h; exact rf_iret hx hb hr hlocks hO dX9_went_297
    · have h := ite_f c28 h
      refine lv_bipush (v := 13) hx hb dX9_went_288 (by decide) ?_
      refine lv_iload_n hx hb dX9_went_290 rfl (lv_at hl 4 rfl) ?_
      refine lv_iadd hx hb dX9_went_291 ?_
      refine lv_goto (tgt := 297) hx hb dX9_went_292 (by decide) ?_
      obtain ⟨rfl, rfl⟩ := ret2 h; exact rf_iret hx hb hr hlocks hO dX9_went_297
  have h := ite_f c85 h
  by_cases c86 : a2 = (27 : Int32)
  · have h := ite_t c86 h
    refine lv_tableIn (tgt := 298) hx hb dX9_went_25 (by rw [c86]; decide) (by rw [c86]; decide) (by rw [c86]; rfl) (by decide) ?_
    refine lv_aload_n hx hb dX9_went_298 rfl (lv_at hl 2 rfl) ?_
    refine lv_aload_n hx hb dX9_went_299 rfl (lv_at hl 2 rfl) ?_
    refine lv_iload hx hb dX9_went_300 (lv_at hl 5 rfl) ?_
    have y_st30 : Ext st3 st' := by
      obtain ⟨r29, st30, h31, h⟩ := bR_some h
      refine Ext.trans (a := st3) (b := st30) (by have t := x_MF_isNumber h31; exact t) ?_
      by_cases c32 : r29 = ((0 : Int32))
      · have h := ite_t c32 h
        obtain ⟨r33, st34, h35, h⟩ := bR_some h
        refine Ext.trans (a := st30) (b := st34) (by have t := x_MF_isNumber h35; exact t) ?_
        by_cases c36 : r33 = ((0 : Int32))
        · have h := ite_t c36 h
          obtain ⟨-, rfl⟩ := ret2 h; exact (show Ext st34 _ from Ext.refl st34)
        · have h := ite_f c36 h
          obtain ⟨-, rfl⟩ := ret2 h; exact (show Ext st34 _ from Ext.refl st34)
      · have h := ite_f c32 h
        obtain ⟨-, h⟩ := ck_some h
        obtain ⟨r38, st39, h40, h⟩ := bR_some h
        refine Ext.trans (a := st30) (b := st39) (by have t := x_MF_isNumber h40; exact t) ?_
        by_cases c41 : r38 = ((0 : Int32))
        · have h := ite_t c41 h
          obtain ⟨-, rfl⟩ := ret2 h; exact (show Ext st39 _ from Ext.refl st39)
        · have h := ite_f c41 h
          obtain ⟨-, rfl⟩ := ret2 h; exact (show Ext st39 _ from Ext.refl st39)
    obtain ⟨r29, st30, h31, h⟩ := bR_some h
    have x_st30 : Ext st3 st30 := by have t := x_MF_isNumber h31; exact t
    refine rf_calli (va_runV (As := [.int a4]) (rest := [.ref fa1]) ⟨hx, hb, hml, hown, hts⟩ (c_MF_isNumber l D A b0 cA st3 a1 fa1 hf_fa1 a4 r29 st30 h31) (cwV 1 hts (gw_V w_c76bdf02 w_8ae0f39a w_9dc8e263 w_18ea82d2 w_a2deccac) rfl rfl rfl (by decide +kernel) ⟨by show 0 + 1 ≤ 5 * d + 12; omega, by show 8 + (2 + 11) + (0) ≤ 139 * d + 259; omega⟩) (rf_preF hf_fa1 hK hO) rfl rfl hl.1 rfl (lv_room (Nat.le_of_ble_eq_true rfl)) dX9_went_302 ⟨by have q1 := E_st3; have q2 := y_st30; unfold Ext at q1 q2; show (gR st3 101 2 - gR st0 101 2) + 0 ≤ gR st' 101 2 - gR st0 101 2; omega, by have q1 := E_st3; have q2 := y_st30; unfold Ext at q1 q2; show (gR st3 101 3 - gR st0 101 3) + 0 ≤ gR st' 101 3 - gR st0 101 3; omega⟩) hO (fun H locs hO => ?_)
    have hf_fa1 : rfF st30 a1 fa1 := rfF.ext (show rfF st3 a1 fa1 from hf_fa1) x_st30
    have E_st30 : Ext st0 st30 := E_st3.trans x_st30
    refine W.widen (k := gR st30 101 2 - gR st0 101 2) (n := gR st30 101 3 - gR st0 101 3) (by have q1 := E_st3; have q2 := x_st30; unfold Ext at q1 q2; omega) (by have q1 := E_st3; have q2 := x_st30; unfold Ext at q1 q2; omega) ?_
    refine lv_if_eq (tgt := 318) hx hb dX9_went_305 (by decide) (fun c32 => ?_) (fun c32 => ?_)
    · have h := ite_t c32 h
      refine lv_lconst (v := 0) hx hb dX9_went_318 (by decide) ?_
      refine pf_MF_gives hx hb hgw iwMF hown hK hO hf_fa1 k124 dX9_went_319 (fun H locs hO => ?_)
      refine lv_aload_n hx hb dX9_went_322 rfl (lv_at hl 2 rfl) ?_
      refine lv_iload hx hb dX9_went_323 (lv_at hl 5 rfl) ?_
      have y_st34 : Ext st30 st' := by
        obtain ⟨r33, st34, h35, h⟩ := bR_some h
        refine Ext.trans (a := st30) (b := st34) (by have t := x_MF_isNumber h35; exact t) ?_
        by_cases c36 : r33 = ((0 : Int32))
        · have h := ite_t c36 h
          obtain ⟨-, rfl⟩ := ret2 h; exact (show Ext st34 _ from Ext.refl st34)
        · have h := ite_f c36 h
          obtain ⟨-, rfl⟩ := ret2 h; exact (show Ext st34 _ from Ext.refl st34)
      obtain ⟨r33, st34, h35, h⟩ := bR_some h
      have x_st34 : Ext st30 st34 := by have t := x_MF_isNumber h35; exact t
      refine rf_calli (va_runV (As := [.int a4]) (rest := []) ⟨hx, hb, hml, hown, hts⟩ (c_MF_isNumber l D A b0 cA (sL st30 4 a1 0 ((0 : Int64))) a1 fa1 hf_fa1 a4 r33 st34 h35) (cwV 1 hts (gw_V w_c76bdf02 w_8ae0f39a w_9dc8e263 w_18ea82d2 w_a2deccac) rfl rfl rfl (by decide +kernel) ⟨by show 0 + 1 ≤ 5 * d + 12; omega, by show 8 + (2 + 11) + (0) ≤ 139 * d + 259; omega⟩) (rf_preF hf_fa1 hK hO) rfl rfl hl.1 rfl (lv_room (Nat.le_of_ble_eq_true rfl)) dX9_went_325 ⟨by have q1 := E_st30; have q2 := y_st34; unfold Ext at q1 q2; show (gR st30 101 2 - gR st0 101 2) + 0 ≤ gR st' 101 2 - gR st0 101 2; omega, by have q1 := E_st30; have q2 := y_st34; unfold Ext at q1 q2; show (gR st30 101 3 - gR st0 101 3) + 0 ≤ gR st' 101 3 - gR st0 101 3; omega⟩) hO (fun H locs hO => ?_)
      have hf_fa1 : rfF st34 a1 fa1 := rfF.ext (show rfF st30 a1 fa1 from hf_fa1) x_st34
      have E_st34 : Ext st0 st34 := E_st30.trans x_st34
      refine W.widen (k := gR st34 101 2 - gR st0 101 2) (n := gR st34 101 3 - gR st0 101 3) (by have q1 := E_st30; have q2 := x_st34; unfold Ext at q1 q2; omega) (by have q1 := E_st30; have q2 := x_st34; unfold Ext at q1 q2; omega) ?_
      refine lv_if_eq (tgt := 336) hx hb dX9_went_328 (by decide) (fun c36 => ?_) (fun c36 => ?_)
      · have h := ite_t c36 h
        refine lv_iconst (v := 4) hx hb dX9_went_336 (by decide) ?_
        obtain ⟨rfl, rfl⟩ := ret2 h; exact rf_iret hx hb hr hlocks hO dX9_went_337
      · have h := ite_f c36 h
        refine lv_bipush (v := 100) hx hb dX9_went_331 (by decide) ?_
        refine lv_goto (tgt := 337) hx hb dX9_went_333 (by decide) ?_
        obtain ⟨rfl, rfl⟩ := ret2 h; exact rf_iret hx hb hr hlocks hO dX9_went_337
    · have h := ite_f c32 h
      refine lv_aload_n hx hb dX9_went_308 rfl (lv_at hl 2 rfl) ?_
      refine gf_MF_n hx hb hgw iwMF hown hK hO hf_fa1 k97 dX9_went_309 ?_
      refine lv_iload hx hb dX9_went_312 (lv_at hl 5 rfl) ?_
      obtain ⟨hc37, h⟩ := ck_some h
      refine al_MN hx hb hK hO hf_fa1 hc37 dX9_went_314 ?_
      refine lv_goto (tgt := 319) hx hb dX9_went_315 (by decide) ?_
      refine pf_MF_gives hx hb hgw iwMF hown hK hO hf_fa1 k124 dX9_went_319 (fun H locs hO => ?_)
      refine lv_aload_n hx hb dX9_went_322 rfl (lv_at hl 2 rfl) ?_
      refine lv_iload hx hb dX9_went_323 (lv_at hl 5 rfl) ?_
      have y_st39 : Ext st30 st' := by
        obtain ⟨r38, st39, h40, h⟩ := bR_some h
        refine Ext.trans (a := st30) (b := st39) (by have t := x_MF_isNumber h40; exact t) ?_
        by_cases c41 : r38 = ((0 : Int32))
        · have h := ite_t c41 h
          obtain ⟨-, rfl⟩ := ret2 h; exact (show Ext st39 _ from Ext.refl st39)
        · have h := ite_f c41 h
          obtain ⟨-, rfl⟩ := ret2 h; exact (show Ext st39 _ from Ext.refl st39)
      obtain ⟨r38, st39, h40, h⟩ := bR_some h
      have x_st39 : Ext st30 st39 := by have t := x_MF_isNumber h40; exact t
      refine rf_calli (va_runV (As := [.int a4]) (rest := []) ⟨hx, hb, hml, hown, hts⟩ (c_MF_isNumber l D A b0 cA (sL st30 4 a1 0 (gL st30 7 a1 a4.toNatClampNeg)) a1 fa1 hf_fa1 a4 r38 st39 h40) (cwV 1 hts (gw_V w_c76bdf02 w_8ae0f39a w_9dc8e263 w_18ea82d2 w_a2deccac) rfl rfl rfl (by decide +kernel) ⟨by show 0 + 1 ≤ 5 * d + 12; omega, by show 8 + (2 + 11) + (0) ≤ 139 * d + 259; omega⟩) (rf_preF hf_fa1 hK hO) rfl rfl hl.1 rfl (lv_room (Nat.le_of_ble_eq_true rfl)) dX9_went_325 ⟨by have q1 := E_st30; have q2 := y_st39; unfold Ext at q1 q2; show (gR st30 101 2 - gR st0 101 2) + 0 ≤ gR st' 101 2 - gR st0 101 2; omega, by have q1 := E_st30; have q2 := y_st39; unfold Ext at q1 q2; show (gR st30 101 3 - gR st0 101 3) + 0 ≤ gR st' 101 3 - gR st0 101 3; omega⟩) hO (fun H locs hO => ?_)
      have hf_fa1 : rfF st39 a1 fa1 := rfF.ext (show rfF st30 a1 fa1 from hf_fa1) x_st39
      have E_st39 : Ext st0 st39 := E_st30.trans x_st39
      refine W.widen (k := gR st39 101 2 - gR st0 101 2) (n := gR st39 101 3 - gR st0 101 3) (by have q1 := E_st30; have q2 := x_st39; unfold Ext at q1 q2; omega) (by have q1 := E_st30; have q2 := x_st39; unfold Ext at q1 q2; omega) ?_
      refine lv_if_eq (tgt := 336) hx hb dX9_went_328 (by decide) (fun c41 => ?_) (fun c41 => ?_)
      · have h := ite_t c41 h
        refine lv_iconst (v := 4) hx hb dX9_went_336 (by decide) ?_
        obtain ⟨rfl, rfl⟩ := ret2 h; exact rf_iret hx hb hr hlocks hO dX9_went_337
      · have h := ite_f c41 h
        refine lv_bipush (v := 100) hx hb dX9_went_331 (by decide) ?_
        refine lv_goto (tgt := 337) hx hb dX9_went_333 (by decide) ?_
        obtain ⟨rfl, rfl⟩ := ret2 h; exact rf_iret hx hb hr hlocks hO dX9_went_337
  have h := ite_f c86 h
  by_cases c87 : a2 = (28 : Int32)
  · have h := ite_t c87 h
    refine lv_tableIn (tgt := 338) hx hb dX9_went_25 (by rw [c87]; decide) (by rw [c87]; decide) (by rw [c87]; rfl) (by decide) ?_
    refine lv_aload_n hx hb dX9_went_338 rfl (lv_at hl 2 rfl) ?_
    refine lv_iload hx hb dX9_went_339 (lv_at hl 5 rfl) ?_
    have y_st43 : Ext st3 st' := by
      obtain ⟨r42, st43, h44, h⟩ := bR_some h
      refine Ext.trans (a := st3) (b := st43) (by have t := x_MF_isNumber h44; exact t) ?_
      by_cases c45 : r42 = ((0 : Int32))
      · have h := ite_t c45 h
        have t := x_Mo_went_L356 hRx h; exact (show Ext st43 _ from t)
      · have h := ite_f c45 h
        by_cases c50 : (gI st43 7 0 0) = ((40 : Int32))
        · have h := ite_t c50 h
          have t := x_Mo_went_L356 hRx h; exact (show Ext st43 _ from t)
        · have h := ite_f c50 h
          obtain ⟨-, h⟩ := ck_some h
          obtain ⟨-, h⟩ := ck_some h
          obtain ⟨-, h⟩ := ck_some h
          obtain ⟨-, rfl⟩ := ret2 h; exact (show Ext st43 _ from Ext.refl st43)
    obtain ⟨r42, st43, h44, h⟩ := bR_some h
    have x_st43 : Ext st3 st43 := by have t := x_MF_isNumber h44; exact t
    refine rf_calli (va_runV (As := [.int a4]) (rest := []) ⟨hx, hb, hml, hown, hts⟩ (c_MF_isNumber l D A b0 cA st3 a1 fa1 hf_fa1 a4 r42 st43 h44) (cwV 1 hts (gw_V w_c76bdf02 w_8ae0f39a w_9dc8e263 w_18ea82d2 w_a2deccac) rfl rfl rfl (by decide +kernel) ⟨by show 0 + 1 ≤ 5 * d + 12; omega, by show 8 + (2 + 11) + (0) ≤ 139 * d + 259; omega⟩) (rf_preF hf_fa1 hK hO) rfl rfl hl.1 rfl (lv_room (Nat.le_of_ble_eq_true rfl)) dX9_went_341 ⟨by have q1 := E_st3; have q2 := y_st43; unfold Ext at q1 q2; show (gR st3 101 2 - gR st0 101 2) + 0 ≤ gR st' 101 2 - gR st0 101 2; omega, by have q1 := E_st3; have q2 := y_st43; unfold Ext at q1 q2; show (gR st3 101 3 - gR st0 101 3) + 0 ≤ gR st' 101 3 - gR st0 101 3; omega⟩) hO (fun H locs hO => ?_)
    have hf_fa1 : rfF st43 a1 fa1 := rfF.ext (show rfF st3 a1 fa1 from hf_fa1) x_st43
    have E_st43 : Ext st0 st43 := E_st3.trans x_st43
    refine W.widen (k := gR st43 101 2 - gR st0 101 2) (n := gR st43 101 3 - gR st0 101 3) (by have q1 := E_st3; have q2 := x_st43; unfold Ext at q1 q2; omega) (by have q1 := E_st3; have q2 := x_st43; unfold Ext at q1 q2; omega) ?_
    refine lv_if_eq (tgt := 356) hx hb dX9_went_344 (by decide) (fun c45 => ?_) (fun c45 => ?_)
    · have h := ite_t c45 h
      exact c_Mo_went_L356 hRx hRc ⟨hx, hb, hml, hown, hts⟩ hr hlocks hK r st' st0 st43 a1 fa1 hf_fa1 a4 _ _ _ h hO (lv_sub hl [2, 5] rfl) (show Ext st0 _ from E_st43)
    · have h := ite_f c45 h
      refine lv_aload_n hx hb dX9_went_347 rfl (lv_at hl 1 rfl) ?_
      refine gf_Mo_events hx hb hgw iwMo hown hK hO k128 dX9_went_348 ?_
      refine lv_bipush (v := 40) hx hb dX9_went_351 (by decide) ?_
      refine lv_icmp_ne (tgt := 372) hx hb dX9_went_353 (by decide) (fun c50 => ?_) (fun c50 => ?_)
      · have h := ite_f c50 h
        refine lv_aload_n hx hb dX9_went_372 rfl (lv_at hl 1 rfl) ?_
        refine gf_Mo_eventContracts hx hb hgw iwMo hown hK hO k33 dX9_went_373 ?_
        refine lv_aload_n hx hb dX9_went_376 rfl (lv_at hl 1 rfl) ?_
        refine gf_Mo_events hx hb hgw iwMo hown hK hO k128 dX9_went_377 ?_
        refine lv_aload_n hx hb dX9_went_380 rfl (lv_at hl 2 rfl) ?_
        refine gf_MF_contract hx hb hgw iwMF hown hK hO hf_fa1 k67 dX9_went_381 ?_
        obtain ⟨hc51, h⟩ := ck_some h
        refine as_MEvC hx hb hK hO hc51 dX9_went_384 (fun H locs hO => ?_)
        refine lv_aload_n hx hb dX9_went_385 rfl (lv_at hl 1 rfl) ?_
        refine gf_Mo_eventNumbers hx hb hgw iwMo hown hK hO k36 dX9_went_386 ?_
        refine lv_aload_n hx hb dX9_went_389 rfl (lv_at hl 1 rfl) ?_
        refine gf_Mo_events hx hb hgw iwMo hown hK hO k128 dX9_went_390 ?_
        refine lv_aload_n hx hb dX9_went_393 rfl (lv_at hl 2 rfl) ?_
        refine gf_MF_n hx hb hgw iwMF hown hK hO hf_fa1 k97 dX9_went_394 ?_
        refine lv_iload hx hb dX9_went_397 (lv_at hl 5 rfl) ?_
        obtain ⟨hc52, h⟩ := ck_some h
        refine al_MN hx hb hK hO hf_fa1 hc52 dX9_went_399 ?_
        obtain ⟨hc53, h⟩ := ck_some h
        refine as_MEvN hx hb hK hO hc53 dX9_went_400 (fun H locs hO => ?_)
        refine lv_aload_n hx hb dX9_went_401 rfl (lv_at hl 1 rfl) ?_
        refine lv_dup hx hb dX9_went_402 rfl ?_
        refine gf_Mo_events hx hb hgw iwMo hown hK hO k128 dX9_went_403 ?_
        refine lv_iconst (v := 1) hx hb dX9_went_406 (by decide) ?_
        refine lv_iadd hx hb dX9_went_407 ?_
        refine pf_Mo_events hx hb hgw iwMo hown hK hO k128 dX9_went_408 (fun H locs hO => ?_)
        refine lv_iconst (v := 0) hx hb dX9_went_411 (by decide) ?_
        obtain ⟨rfl, rfl⟩ := ret2 h; exact rf_iret hx hb hr hlocks hO dX9_went_412
      · have h := ite_t c50 h
        exact c_Mo_went_L356 hRx hRc ⟨hx, hb, hml, hown, hts⟩ hr hlocks hK r st' st0 st43 a1 fa1 hf_fa1 a4 _ _ _ h hO (lv_sub hl [2, 5] rfl) (show Ext st0 _ from E_st43)
  have h := ite_f c87 h
  by_cases c88 : a2 = (29 : Int32)
  · have h := ite_t c88 h
    refine lv_tableIn (tgt := 413) hx hb dX9_went_25 (by rw [c88]; decide) (by rw [c88]; decide) (by rw [c88]; rfl) (by decide) ?_
    refine lv_aload_n hx hb dX9_went_413 rfl (lv_at hl 1 rfl) ?_
    refine lv_aload_n hx hb dX9_went_414 rfl (lv_at hl 2 rfl) ?_
    refine lv_iload_n hx hb dX9_went_415 rfl (lv_at hl 4 rfl) ?_
    refine lv_iload hx hb dX9_went_416 (lv_at hl 5 rfl) ?_
    have y_st55 : Ext st3 st' := by
      obtain ⟨r54, st55, h56, h⟩ := bR_some h
      refine Ext.trans (a := st3) (b := st55) (by have t := x_Mo_calls hRx h56; exact t) ?_
      obtain ⟨-, rfl⟩ := ret2 h; exact (show Ext st55 _ from Ext.refl st55)
    obtain ⟨r54, st55, h56, h⟩ := bR_some h
    have x_st55 : Ext st3 st55 := by have t := x_Mo_calls hRx h56; exact t
    have y2_st55 : Ext st55 st' := by
      obtain ⟨-, rfl⟩ := ret2 h; exact (show Ext st55 _ from Ext.refl st55)
    refine rf_calli (va_runV (As := [.ref fa1, .int a3, .int a4]) (rest := []) ⟨hx, hb, hml, hown, hts⟩ (c_Mo_calls l D A b0 cA RAN d hRx hRc st3 a1 fa1 hf_fa1 a3 a4 r54 st55 h56) (cwV 3 hts (gw_V w_ea145c04 w_2c54f1ad w_58ca5cc7 w_18f41a94 w_5fec57c9) rfl rfl rfl (by decide +kernel) ⟨by show (5 * d + 11) + 1 ≤ 5 * d + 12; omega, by show 8 + (15 + 11) + (139 * d + 225) ≤ 139 * d + 259; omega⟩) (rf_preM hK hO) rfl rfl hl.1 rfl (lv_room (Nat.le_of_ble_eq_true rfl)) dX9_went_418 ⟨by have q1 := E_st3; have q2 := x_st55; have q3 := y2_st55; unfold Ext at q1 q2 q3; show (gR st3 101 2 - gR st0 101 2) + (gR st55 101 2 - gR st3 101 2) ≤ gR st' 101 2 - gR st0 101 2; omega, by have q1 := E_st3; have q2 := x_st55; have q3 := y2_st55; unfold Ext at q1 q2 q3; show (gR st3 101 3 - gR st0 101 3) + (gR st55 101 3 - gR st3 101 3) ≤ gR st' 101 3 - gR st0 101 3; omega⟩) hO (fun H locs hO => ?_)
    have hf_fa1 : rfF st55 a1 fa1 := rfF.ext (show rfF st3 a1 fa1 from hf_fa1) x_st55
    have E_st55 : Ext st0 st55 := E_st3.trans x_st55
    refine W.widen (k := gR st55 101 2 - gR st0 101 2) (n := gR st55 101 3 - gR st0 101 3) (by have q1 := E_st3; have q2 := x_st55; unfold Ext at q1 q2; omega) (by have q1 := E_st3; have q2 := x_st55; unfold Ext at q1 q2; omega) ?_
    obtain ⟨rfl, rfl⟩ := ret2 h; exact rf_iret hx hb hr hlocks hO dX9_went_421
  have h := ite_f c88 h
  refine cw_tableD (tgt := 422) hx hb dX9_went_25 (by
    have e0 := lv_neT (a := 13) c81 (by decide)
    have e1 := lv_neT (a := 14) c82 (by decide)
    have e2 := lv_neT (a := 24) c83 (by decide)
    have e3 := lv_neT (a := 25) c84 (by decide)
    have e4 := lv_neT (a := 26) c85 (by decide)
    have e5 := lv_neT (a := 27) c86 (by decide)
    have e6 := lv_neT (a := 28) c87 (by decide)
    have e7 := lv_neT (a := 29) c88 (by decide)
    by_cases q1 : a2.toInt < 13
    · exact Or.inl q1
    by_cases q2 : (29 : Int) < a2.toInt
    · exact Or.inr (Or.inl q2)
    have q3 : a2.toInt = 15 ∨ a2.toInt = 16 ∨ a2.toInt = 17 ∨ a2.toInt = 18 ∨ a2.toInt = 19 ∨ a2.toInt = 20 ∨ a2.toInt = 21 ∨ a2.toInt = 22 ∨ a2.toInt = 23 := by omega
    rcases q3 with q3 | q3 | q3 | q3 | q3 | q3 | q3 | q3 | q3 <;> (rw [q3]; exact Or.inr (Or.inr rfl))) (by decide) ?_
  refine lv_aload_n hx hb dX9_went_422 rfl (lv_at hl 2 rfl) ?_
  refine lv_iload_n hx hb dX9_went_423 rfl (lv_at hl 3 rfl) ?_
  refine lv_bipush (v := 30) hx hb dX9_went_424 (by decide) ?_
  refine lv_icmp_ne (tgt := 441) hx hb dX9_went_426 (by decide) (fun c57 => ?_) (fun c57 => ?_)
  · have h := ite_f c57 h
    refine lv_aload_n hx hb dX9_went_441 rfl (lv_at hl 2 rfl) ?_
    refine gf_MF_caller hx hb hgw iwMF hown hK hO hf_fa1 k134 dX9_went_442 ?_
    refine lv_i2l hx hb dX9_went_445 rfl ?_
    have y_st59 : Ext st3 st' := by
      obtain ⟨st59, h60, h⟩ := bV_some h
      refine Ext.trans (a := st3) (b := st59) (by have t := x_MF_number h60; exact t) ?_
      obtain ⟨-, rfl⟩ := ret2 h; exact (show Ext st59 _ from Ext.refl st59)
    obtain ⟨st59, h60, h⟩ := bV_some h
    have x_st59 : Ext st3 st59 := by have t := x_MF_number h60; exact t
    refine rf_callv (va_runV (As := [.long ((gI st3 15 a1 0).toInt64)]) (rest := []) ⟨hx, hb, hml, hown, hts⟩ (c_MF_number l D A b0 cA st3 a1 fa1 hf_fa1 ((gI st3 15 a1 0).toInt64) st59 h60) (cwV 1 hts (gw_V w_a50611e6 w_8ebaf0f1 w_dd21e4d3 w_18ea82d2 w_54e1986d) rfl rfl rfl (by decide +kernel) ⟨by show 1 + 1 ≤ 5 * d + 12; omega, by show 8 + (3 + 11) + (24) ≤ 139 * d + 259; omega⟩) (rf_preF hf_fa1 hK hO) rfl rfl hl.1 rfl (lv_room (Nat.le_of_ble_eq_true rfl)) dX9_went_446 ⟨by have q1 := E_st3; have q2 := y_st59; unfold Ext at q1 q2; show (gR st3 101 2 - gR st0 101 2) + 0 ≤ gR st' 101 2 - gR st0 101 2; omega, by have q1 := E_st3; have q2 := y_st59; unfold Ext at q1 q2; show (gR st3 101 3 - gR st0 101 3) + 0 ≤ gR st' 101 3 - gR st0 101 3; omega⟩) hO (fun H locs hO => ?_)
    have hf_fa1 : rfF st59 a1 fa1 := rfF.ext (show rfF st3 a1 fa1 from hf_fa1) x_st59
    have E_st59 : Ext st0 st59 := E_st3.trans x_st59
    refine W.widen (k := gR st59 101 2 - gR st0 101 2) (n := gR st59 101 3 - gR st0 101 3) (by have q1 := E_st3; have q2 := x_st59; unfold Ext at q1 q2; omega) (by have q1 := E_st3; have q2 := x_st59; unfold Ext at q1 q2; omega) ?_
    refine lv_iconst (v := 0) hx hb dX9_went_449 (by decide) ?_
    obtain ⟨rfl, rfl⟩ := ret2 h; exact rf_iret hx hb hr hlocks hO dX9_went_450
  · have h := ite_t c57 h
    refine lv_aload_n hx hb dX9_went_429 rfl (lv_at hl 1 rfl) ?_
    refine gf_Mo_balances hx hb hgw iwMo hown hK hO k27 dX9_went_430 ?_
    refine lv_aload_n hx hb dX9_went_433 rfl (lv_at hl 2 rfl) ?_
    refine gf_MF_contract hx hb hgw iwMF hown hK hO hf_fa1 k67 dX9_went_434 ?_
    obtain ⟨hc61, h⟩ := ck_some h
    refine al_MBals hx hb hK hO hc61 dX9_went_437 ?_
    refine lv_goto (tgt := 446) hx hb dX9_went_438 (by decide) ?_
    have y_st63 : Ext st3 st' := by
      obtain ⟨st63, h64, h⟩ := bV_some h
      refine Ext.trans (a := st3) (b := st63) (by have t := x_MF_number h64; exact t) ?_
      obtain ⟨-, rfl⟩ := ret2 h; exact (show Ext st63 _ from Ext.refl st63)
    obtain ⟨st63, h64, h⟩ := bV_some h
    have x_st63 : Ext st3 st63 := by have t := x_MF_number h64; exact t
    refine rf_callv (va_runV (As := [.long (gL st3 1 0 ((gI st3 14 a1 0).toNatClampNeg))]) (rest := []) ⟨hx, hb, hml, hown, hts⟩ (c_MF_number l D A b0 cA st3 a1 fa1 hf_fa1 (gL st3 1 0 ((gI st3 14 a1 0).toNatClampNeg)) st63 h64) (cwV 1 hts (gw_V w_a50611e6 w_8ebaf0f1 w_dd21e4d3 w_18ea82d2 w_54e1986d) rfl rfl rfl (by decide +kernel) ⟨by show 1 + 1 ≤ 5 * d + 12; omega, by show 8 + (3 + 11) + (24) ≤ 139 * d + 259; omega⟩) (rf_preF hf_fa1 hK hO) rfl rfl hl.1 rfl (lv_room (Nat.le_of_ble_eq_true rfl)) dX9_went_446 ⟨by have q1 := E_st3; have q2 := y_st63; unfold Ext at q1 q2; show (gR st3 101 2 - gR st0 101 2) + 0 ≤ gR st' 101 2 - gR st0 101 2; omega, by have q1 := E_st3; have q2 := y_st63; unfold Ext at q1 q2; show (gR st3 101 3 - gR st0 101 3) + 0 ≤ gR st' 101 3 - gR st0 101 3; omega⟩) hO (fun H locs hO => ?_)
    have hf_fa1 : rfF st63 a1 fa1 := rfF.ext (show rfF st3 a1 fa1 from hf_fa1) x_st63
    have E_st63 : Ext st0 st63 := E_st3.trans x_st63
    refine W.widen (k := gR st63 101 2 - gR st0 101 2) (n := gR st63 101 3 - gR st0 101 3) (by have q1 := E_st3; have q2 := x_st63; unfold Ext at q1 q2; omega) (by have q1 := E_st3; have q2 := x_st63; unfold Ext at q1 q2; omega) ?_
    refine lv_iconst (v := 0) hx hb dX9_went_449 (by decide) ?_
    obtain ⟨rfl, rfl⟩ := ret2 h; exact rf_iret hx hb hr hlocks hO dX9_went_450
