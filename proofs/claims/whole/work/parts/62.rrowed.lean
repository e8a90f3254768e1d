-- CallWalkerModel copied
def j_Mo_copied_L238 : Nat → Nat → Int32 → Int64 → Int64 → Int64 → Nat → Nat → Nat → Int32 → CwS → Option (Int32 × CwS)
  | 0, _, _, _, _, _, _, _, _, _, _ => none
  | n + 1, x0, x1, x2, x4, x6, x8, x9, x10, x11, st =>
    if ((0 : Int32)) ≤ (lg_cmp x11.toInt64 x6) then
      some ((0 : Int32), st)
    else
      ck (isRow st x10) <|
      ck (ix x11 (gR st 100 (x10 - 1))) <|
      ck (isRow st x9) <|
      ck (ix (x4.toInt32 + x11) (gR st 100 (x9 - 1))) <|
      j_Mo_copied_L238 n x0 x1 x2 x4 x6 x8 x9 x10 (x11 + (1 : Int32)) (sL st 9 (x9 - 1) ((x4.toInt32 + x11).toNatClampNeg) (gL st 9 (x10 - 1) (x11.toNatClampNeg)))
def j_Mo_copied_L207 : Nat → Nat → Int32 → Int64 → Int64 → Int64 → Nat → Nat → Nat → Int32 → CwS → Option (Int32 × CwS)
  | 0, _, _, _, _, _, _, _, _, _, _ => none
  | n + 1, x0, x1, x2, x4, x6, x8, x9, x10, x11, st =>
    if ((0 : Int32)) ≤ (lg_cmp x11.toInt64 x6) then
      j_Mo_copied_L238 18 x0 x1 x2 x4 x6 x8 x9 x10 ((0 : Int32)) st
    else
      ck (isRow st x8) <|
      ck (ix (x2.toInt32 + x11) (gR st 100 (x8 - 1))) <|
      ck (isRow st x10) <|
      ck (ix x11 (gR st 100 (x10 - 1))) <|
      j_Mo_copied_L207 n x0 x1 x2 x4 x6 x8 x9 x10 (x11 + (1 : Int32)) (sL st 9 (x10 - 1) (x11.toNatClampNeg) (gL st 9 (x8 - 1) ((x2.toInt32 + x11).toNatClampNeg)))
def j_Mo_copied (a0 : Nat) (a1 : Int32) (st0 : CwS) : Option (Int32 × CwS) :=
  bR (j_MF_isNumber a0 (a1 + ((1 : Int32))) st0) fun r1 st2 =>
  if r1 = ((0 : Int32)) then
    some ((4 : Int32), st2)
  else
    bR (j_MF_isNumber a0 (a1 + ((3 : Int32))) st2) fun r5 st6 =>
    if r5 = ((0 : Int32)) then
      some ((4 : Int32), st6)
    else
      bR (j_MF_isNumber a0 (a1 + ((4 : Int32))) st6) fun r9 st10 =>
      if r9 = ((0 : Int32)) then
        some ((4 : Int32), st10)
      else
        ck (ix a1 13) <|
        if (gI st10 21 a0 a1.toNatClampNeg) = ((3 : Int32)) then
          some ((2 : Int32), st10)
        else
          ck (ix (a1 + ((2 : Int32))) 13) <|
          if (gI st10 21 a0 ((a1 + ((2 : Int32))).toNatClampNeg)) = ((3 : Int32)) then
            some ((2 : Int32), st10)
          else
            bR (j_MF_isNumber a0 a1 st10) fun r17 st18 =>
            if r17 = ((0 : Int32)) then
              ck (ix a1 13) <|
              ck (ix (a1 + ((2 : Int32))) 13) <|
              if (gI st18 21 a0 a1.toNatClampNeg) = (gI st18 21 a0 ((a1 + ((2 : Int32))).toNatClampNeg)) then
                ck (ix (a1 + ((1 : Int32))) 13) <|
                ck (ix (a1 + ((3 : Int32))) 13) <|
                ck (ix (a1 + ((4 : Int32))) 13) <|
                ck (ix a1 13) <|
                ck (ix (a1 + ((2 : Int32))) 13) <|
                if (lg_cmp (gL st18 7 a0 ((a1 + ((4 : Int32))).toNatClampNeg)) ((0 : Int64))) < ((0 : Int32)) then
                  some ((3 : Int32), st18)
                else
                  if (lg_cmp (gL st18 7 a0 ((a1 + ((1 : Int32))).toNatClampNeg)) ((0 : Int64))) < ((0 : Int32)) then
                    some ((3 : Int32), st18)
                  else
                    if (lg_cmp (gL st18 7 a0 ((a1 + ((3 : Int32))).toNatClampNeg)) ((0 : Int64))) < ((0 : Int32)) then
                      some ((3 : Int32), st18)
                    else
                      ck (isRow st18 (gR st18 50 (16 * a0 + a1.toNatClampNeg))) <|
                      if ((0 : Int32)) < (lg_cmp (gL st18 7 a0 ((a1 + ((4 : Int32))).toNatClampNeg)) ((Int32.ofNat (gR st18 100 ((gR st18 50 (16 * a0 + a1.toNatClampNeg)) - 1))).toInt64)) then
                        some ((3 : Int32), st18)
                      else
                        ck (isRow st18 (gR st18 50 (16 * a0 + ((a1 + ((2 : Int32))).toNatClampNeg)))) <|
                        if ((0 : Int32)) < (lg_cmp (gL st18 7 a0 ((a1 + ((4 : Int32))).toNatClampNeg)) ((Int32.ofNat (gR st18 100 ((gR st18 50 (16 * a0 + ((a1 + ((2 : Int32))).toNatClampNeg))) - 1))).toInt64)) then
                          some ((3 : Int32), st18)
                        else
                          ck (isRow st18 (gR st18 50 (16 * a0 + a1.toNatClampNeg))) <|
                          if ((0 : Int32)) < (lg_cmp (gL st18 7 a0 ((a1 + ((1 : Int32))).toNatClampNeg)) (((Int32.ofNat (gR st18 100 ((gR st18 50 (16 * a0 + a1.toNatClampNeg)) - 1))).toInt64) - (gL st18 7 a0 ((a1 + ((4 : Int32))).toNatClampNeg)))) then
                            some ((3 : Int32), st18)
                          else
                            ck (isRow st18 (gR st18 50 (16 * a0 + ((a1 + ((2 : Int32))).toNatClampNeg)))) <|
                            if (lg_cmp (gL st18 7 a0 ((a1 + ((3 : Int32))).toNatClampNeg)) (((Int32.ofNat (gR st18 100 ((gR st18 50 (16 * a0 + ((a1 + ((2 : Int32))).toNatClampNeg))) - 1))).toInt64) - (gL st18 7 a0 ((a1 + ((4 : Int32))).toNatClampNeg)))) ≤ ((0 : Int32)) then
                              ck (rAl ((gL st18 7 a0 ((a1 + ((4 : Int32))).toNatClampNeg)).toInt32)) <|
                              bS (rNew st18 (((gL st18 7 a0 ((a1 + ((4 : Int32))).toNatClampNeg)).toInt32).toNatClampNeg)) fun st41 =>
                              j_Mo_copied_L207 18 a0 a1 (gL st18 7 a0 ((a1 + ((1 : Int32))).toNatClampNeg)) (gL st18 7 a0 ((a1 + ((3 : Int32))).toNatClampNeg)) (gL st18 7 a0 ((a1 + ((4 : Int32))).toNatClampNeg)) (gR st18 50 (16 * a0 + a1.toNatClampNeg)) (gR st18 50 (16 * a0 + ((a1 + ((2 : Int32))).toNatClampNeg))) (gR st18 101 2 + 1) ((0 : Int32)) st41
                            else
                              some ((3 : Int32), st18)
              else
                some ((4 : Int32), st18)
            else
              some ((4 : Int32), st18)
set_option maxHeartbeats 4000000 in
theorem x_Mo_copied_L238 {r : Int32} {st' : CwS} : ∀ (n : Nat) (x0 : Nat) (x1 : Int32) (x2 : Int64) (x4 : Int64) (x6 : Int64) (x8 : Nat) (x9 : Nat) (x10 : Nat) (x11 : Int32) (st : CwS), j_Mo_copied_L238 n x0 x1 x2 x4 x6 x8 x9 x10 x11 st = some (r, st') → Ext st st' := by
  intro n
  induction n with
  | zero =>
    intro x0 x1 x2 x4 x6 x8 x9 x10 x11 st h
    cases h
  | succ n ih =>
    intro x0 x1 x2 x4 x6 x8 x9 x10 x11 st h
    unfold j_Mo_copied_L238 at h
    by_cases c43 : ((0 : Int32)) ≤ (lg_cmp x11.toInt64 x6)
    · have h := ite_t c43 h
      obtain ⟨-, rfl⟩ := ret2 h; exact (show Ext st _ from Ext.refl st)
    · have h := ite_f c43 h
      obtain ⟨-, h⟩ := ck_some h
      obtain ⟨-, h⟩ := ck_some h
      obtain ⟨-, h⟩ := ck_some h
      obtain ⟨-, h⟩ := ck_some h
      have t := ih _ _ _ _ _ _ _ _ _ _ h; exact (show Ext st _ from t)
set_option maxHeartbeats 4000000 in
theorem x_Mo_copied_L207 {r : Int32} {st' : CwS} : ∀ (n : Nat) (x0 : Nat) (x1 : Int32) (x2 : Int64) (x4 : Int64) (x6 : Int64) (x8 : Nat) (x9 : Nat) (x10 : Nat) (x11 : Int32) (st : CwS), j_Mo_copied_L207 n x0 x1 x2 x4 x6 x8 x9 x10 x11 st = some (r, st') → Ext st st' := by
  intro n
  induction n with
  | zero =>
    intro x0 x1 x2 x4 x6 x8 x9 x10 x11 st h
    cases h
  | succ n ih =>
    intro x0 x1 x2 x4 x6 x8 x9 x10 x11 st h
    unfold j_Mo_copied_L207 at h
    by_cases c42 : ((0 : Int32)) ≤ (lg_cmp x11.toInt64 x6)
    · have h := ite_t c42 h
      have t := x_Mo_copied_L238 _ _ _ _ _ _ _ _ _ _ _ h; exact (show Ext st _ from t)
    · have h := ite_f c42 h
      obtain ⟨-, h⟩ := ck_some h
      obtain ⟨-, h⟩ := ck_some h
      obtain ⟨-, h⟩ := ck_some h
      obtain ⟨-, h⟩ := ck_some h
      have t := ih _ _ _ _ _ _ _ _ _ _ h; exact (show Ext st _ from t)
set_option maxHeartbeats 4000000 in
theorem x_Mo_copied {a0 : Nat} {a1 : Int32} {st0 : CwS} {r : Int32} {st' : CwS} (h : j_Mo_copied a0 a1 st0 = some (r, st')) : Ext st0 st' := by
  unfold j_Mo_copied at h
  obtain ⟨r1, st2, h3, h⟩ := bR_some h
  refine Ext.trans (a := st0) (b := st2) (by have t := x_MF_isNumber h3; exact t) ?_
  by_cases c4 : r1 = ((0 : Int32))
  · have h := ite_t c4 h
    obtain ⟨-, rfl⟩ := ret2 h; exact (show Ext st2 _ from Ext.refl st2)
  · have h := ite_f c4 h
    obtain ⟨r5, st6, h7, h⟩ := bR_some h
    refine Ext.trans (a := st2) (b := st6) (by have t := x_MF_isNumber h7; exact t) ?_
    by_cases c8 : r5 = ((0 : Int32))
    · have h := ite_t c8 h
      obtain ⟨-, rfl⟩ := ret2 h; exact (show Ext st6 _ from Ext.refl st6)
    · have h := ite_f c8 h
      obtain ⟨r9, st10, h11, h⟩ := bR_some h
      refine Ext.trans (a := st6) (b := st10) (by have t := x_MF_isNumber h11; exact t) ?_
      by_cases c12 : r9 = ((0 : Int32))
      · have h := ite_t c12 h
        obtain ⟨-, rfl⟩ := ret2 h; exact (show Ext st10 _ from Ext.refl st10)
      · have h := ite_f c12 h
        obtain ⟨-, h⟩ := ck_some h
        by_cases c14 : (gI st10 21 a0 a1.toNatClampNeg) = ((3 : Int32))
        · have h := ite_t c14 h
          obtain ⟨-, rfl⟩ := ret2 h; exact (show Ext st10 _ from Ext.refl st10)
        · have h := ite_f c14 h
          obtain ⟨-, h⟩ := ck_some h
          by_cases c16 : (gI st10 21 a0 ((a1 + ((2 : Int32))).toNatClampNeg)) = ((3 : Int32))
          · have h := ite_t c16 h
            obtain ⟨-, rfl⟩ := ret2 h; exact (show Ext st10 _ from Ext.refl st10)
          · have h := ite_f c16 h
            obtain ⟨r17, st18, h19, h⟩ := bR_some h
            refine Ext.trans (a := st10) (b := st18) (by have t := x_MF_isNumber h19; exact t) ?_
            by_cases c20 : r17 = ((0 : Int32))
            · have h := ite_t c20 h
              obtain ⟨-, h⟩ := ck_some h
              obtain ⟨-, h⟩ := ck_some h
              by_cases c23 : (gI st18 21 a0 a1.toNatClampNeg) = (gI st18 21 a0 ((a1 + ((2 : Int32))).toNatClampNeg))
              · have h := ite_t c23 h
                obtain ⟨-, h⟩ := ck_some h
                obtain ⟨-, h⟩ := ck_some h
                obtain ⟨-, h⟩ := ck_some h
                obtain ⟨-, h⟩ := ck_some h
                obtain ⟨-, h⟩ := ck_some h
                by_cases c29 : (lg_cmp (gL st18 7 a0 ((a1 + ((4 : Int32))).toNatClampNeg)) ((0 : Int64))) < ((0 : Int32))
                · have h := ite_t c29 h
                  obtain ⟨-, rfl⟩ := ret2 h; exact (show Ext st18 _ from Ext.refl st18)
                · have h := ite_f c29 h
                  by_cases c30 : (lg_cmp (gL st18 7 a0 ((a1 + ((1 : Int32))).toNatClampNeg)) ((0 : Int64))) < ((0 : Int32))
                  · have h := ite_t c30 h
                    obtain ⟨-, rfl⟩ := ret2 h; exact (show Ext st18 _ from Ext.refl st18)
                  · have h := ite_f c30 h
                    by_cases c31 : (lg_cmp (gL st18 7 a0 ((a1 + ((3 : Int32))).toNatClampNeg)) ((0 : Int64))) < ((0 : Int32))
                    · have h := ite_t c31 h
                      obtain ⟨-, rfl⟩ := ret2 h; exact (show Ext st18 _ from Ext.refl st18)
                    · have h := ite_f c31 h
                      obtain ⟨-, h⟩ := ck_some h
                      by_cases c33 : ((0 : Int32)) < (lg_cmp (gL st18 7 a0 ((a1 + ((4 : Int32))).toNatClampNeg)) ((Int32.ofNat (gR st18 100 ((gR st18 50 (16 * a0 + a1.toNatClampNeg)) - 1))).toInt64))
                      · have h := ite_t c33 h
                        obtain ⟨-, rfl⟩ := ret2 h; exact (show Ext st18 _ from Ext.refl st18)
                      · have h := ite_f c33 h
                        obtain ⟨-, h⟩ := ck_some h
                        by_cases c35 : ((0 : Int32)) < (lg_cmp (gL st18 7 a0 ((a1 + ((4 : Int32))).toNatClampNeg)) ((Int32.ofNat (gR st18 100 ((gR st18 50 (16 * a0 + ((a1 + ((2 : Int32))).toNatClampNeg))) - 1))).toInt64))
                        · have h := ite_t c35 h
                          obtain ⟨-, rfl⟩ := ret2 h; exact (show Ext st18 _ from Ext.refl st18)
                        · have h := ite_f c35 h
                          obtain ⟨-, h⟩ := ck_some h
                          by_cases c37 : ((0 : Int32)) < (lg_cmp (gL st18 7 a0 ((a1 + ((1 : Int32))).toNatClampNeg)) (((Int32.ofNat (gR st18 100 ((gR st18 50 (16 * a0 + a1.toNatClampNeg)) - 1))).toInt64) - (gL st18 7 a0 ((a1 + ((4 : Int32))).toNatClampNeg))))
                          · have h := ite_t c37 h
                            obtain ⟨-, rfl⟩ := ret2 h; exact (show Ext st18 _ from Ext.refl st18)
                          · have h := ite_f c37 h
                            obtain ⟨-, h⟩ := ck_some h
                            by_cases c39 : (lg_cmp (gL st18 7 a0 ((a1 + ((3 : Int32))).toNatClampNeg)) (((Int32.ofNat (gR st18 100 ((gR st18 50 (16 * a0 + ((a1 + ((2 : Int32))).toNatClampNeg))) - 1))).toInt64) - (gL st18 7 a0 ((a1 + ((4 : Int32))).toNatClampNeg)))) ≤ ((0 : Int32))
                            · have h := ite_t c39 h
                              obtain ⟨-, h⟩ := ck_some h
                              obtain ⟨st41, e_st41, h⟩ := bS_some h
                              refine Ext.trans (b := st41) (by rw [e_st41]; exact Ext.new _ _) ?_
                              have t := x_Mo_copied_L207 _ _ _ _ _ _ _ _ _ _ _ h; exact (show Ext st41 _ from t)
                            · have h := ite_f c39 h
                              obtain ⟨-, rfl⟩ := ret2 h; exact (show Ext st18 _ from Ext.refl st18)
              · have h := ite_f c23 h
                obtain ⟨-, rfl⟩ := ret2 h; exact (show Ext st18 _ from Ext.refl st18)
            · have h := ite_f c20 h
              obtain ⟨-, rfl⟩ := ret2 h; exact (show Ext st18 _ from Ext.refl st18)
set_option maxHeartbeats 4000000 in
set_option maxRecDepth 100000 in
theorem c_Mo_copied_L238 {l : Launch} {D : va_G} {A : Nat → Prop} {b0 : Nat} {cA : Nat → ClassId} {p : Program} {e : Env} {s : State} {m : MethodId} {args : Array Value} {below : List Frame} {meth : Method} {c : Code} (S : CallFix p m c cX9_copied 12 s args (wv yX9_copied cX9_copied 12 (some .int)) RX9) (hr : meth.sig.returnType = some .int) (hlocks : meth.locks = false) (hK : rfK D cA s) (r : Int32) (st' : CwS) (st0 : CwS) : ∀ (n : Nat) (st : CwS) (x0 : Nat) (fx0 : Nat) (hf_fx0 : rfF st x0 fx0) (x1 : Int32) (x2 : Int64) (x4 : Int64) (x6 : Int64) (x8 : Nat) (x9 : Nat) (x10 : Nat) (x11 : Int32) (H : Heap) (locs : List Loc) (ls : Array Slot), j_Mo_copied_L238 n x0 x1 x2 x4 x6 x8 x9 x10 x11 st = some (r, st') → rfO D A b0 cA s st H locs → lv_has ls 12 [(0, .ref fx0), (1, .int x1), (2, .long x2), (4, .long x4), (6, .long x6), (8, rq x8), (9, rq x9), (10, rq x10), (11, .int x11)] → Ext st0 st → W p l e ({ frames := 1, cells := gR st' 101 2 - gR st0 101 2, slots := gR st' 101 3 - gR st0 101 3, locals := 21 }) s m args below meth c H locs (gR st 101 2 - gR st0 101 2) (gR st 101 3 - gR st0 101 3) (MQ below (rfQi D A b0 cA r st') args s (gR st' 101 2 - gR st0 101 2) (gR st' 101 3 - gR st0 101 3) A) (F0 m 238 ls []) := by
  obtain ⟨hx, hb, hml, hown, hts⟩ := S
  have hgw := fun (w : Cond) (h : w ∈ gwW) => hts w (List.mem_cons_of_mem _ h)
  have k97 := hgw _ w_bb1741c6
  have k100 := hgw _ w_36d04f4c
  have k103 := hgw _ w_05e7d7f0
  intro n
  induction n with
  | zero =>
    intro st x0 fx0 hf_fx0 x1 x2 x4 x6 x8 x9 x10 x11 H locs ls h hO hl E_st
    cases h
  | succ n ih =>
    intro st x0 fx0 hf_fx0 x1 x2 x4 x6 x8 x9 x10 x11 H locs ls h hO hl E_st
    unfold j_Mo_copied_L238 at h
    refine lv_iload hx hb dX9_copied_238 (lv_at hl 8 rfl) ?_
    refine lv_i2l hx hb dX9_copied_240 rfl ?_
    refine lv_lload hx hb dX9_copied_241 (lv_at hl 4 rfl) ?_
    refine W.lcmp hx hb dX9_copied_243 ?_
    refine lv_if_ge (tgt := 267) hx hb dX9_copied_244 (by decide) (fun c43 => ?_) (fun c43 => ?_)
    · have h := ite_t c43 h
      refine lv_iconst (v := 0) hx hb dX9_copied_267 (by decide) ?_
      obtain ⟨rfl, rfl⟩ := ret2 h; exact rf_iret hx hb hr hlocks hO dX9_copied_268
    · have h := ite_f c43 h
      refine rq_aload hx hb dX9_copied_247 (lv_at hl 6 rfl) ?_
      refine lv_lload hx hb dX9_copied_249 (lv_at hl 3 rfl) ?_
      refine lv_l2i hx hb dX9_copied_251 rfl ?_
      refine lv_iload hx hb dX9_copied_252 (lv_at hl 8 rfl) ?_
      refine lv_iadd hx hb dX9_copied_254 ?_
      refine rq_aload hx hb dX9_copied_255 (lv_at hl 7 rfl) ?_
      refine lv_iload hx hb dX9_copied_257 (lv_at hl 8 rfl) ?_
      obtain ⟨hc44, h⟩ := ck_some h
      obtain ⟨hc45, h⟩ := ck_some h
      refine al_Row hx hb hK hO hc44 hc45 dX9_copied_259 ?_
      obtain ⟨hc46, h⟩ := ck_some h
      obtain ⟨hc47, h⟩ := ck_some h
      refine as_Row hx hb hK hO hc46 hc47 dX9_copied_260 (fun H locs hO => ?_)
      refine lv_iinc (v := x11 + (1 : Int32)) (lv' := [(11, .int (x11 + (1 : Int32))), (0, .ref fx0), (1, .int x1), (2, .long x2), (4, .long x4), (6, .long x6), (8, rq x8), (9, rq x9), (10, rq x10)]) hx hb dX9_copied_261 hl (k := 8) rfl rfl (by decide) (by simp [List.filter, rq_cat]) (fun ls hl => ?_)
      refine lv_goto (tgt := 238) hx hb dX9_copied_264 (by decide) ?_
      exact ih (sL st 9 (x9 - 1) ((x4.toInt32 + x11).toNatClampNeg) (gL st 9 (x10 - 1) (x11.toNatClampNeg))) x0 fx0 hf_fx0 x1 x2 x4 x6 x8 x9 x10 (x11 + (1 : Int32)) _ _ _ h hO (lv_sub hl [1, 2, 3, 4, 5, 6, 7, 8, 0] rfl) (show Ext st0 _ from E_st)
set_option maxHeartbeats 4000000 in
set_option maxRecDepth 100000 in
theorem c_Mo_copied_L207 {l : Launch} {D : va_G} {A : Nat → Prop} {b0 : Nat} {cA : Nat → ClassId} {p : Program} {e : Env} {s : State} {m : MethodId} {args : Array Value} {below : List Frame} {meth : Method} {c : Code} (S : CallFix p m c cX9_copied 12 s args (wv yX9_copied cX9_copied 12 (some .int)) RX9) (hr : meth.sig.returnType = some .int) (hlocks : meth.locks = false) (hK : rfK D cA s) (r : Int32) (st' : CwS) (st0 : CwS) : ∀ (n : Nat) (st : CwS) (x0 : Nat) (fx0 : Nat) (hf_fx0 : rfF st x0 fx0) (x1 : Int32) (x2 : Int64) (x4 : Int64) (x6 : Int64) (x8 : Nat) (x9 : Nat) (x10 : Nat) (x11 : Int32) (H : Heap) (locs : List Loc) (ls : Array Slot), j_Mo_copied_L207 n x0 x1 x2 x4 x6 x8 x9 x10 x11 st = some (r, st') → rfO D A b0 cA s st H locs → lv_has ls 12 [(0, .ref fx0), (1, .int x1), (2, .long x2), (4, .long x4), (6, .long x6), (8, rq x8), (9, rq x9), (10, rq x10), (11, .int x11)] → Ext st0 st → W p l e ({ frames := 1, cells := gR st' 101 2 - gR st0 101 2, slots := gR st' 101 3 - gR st0 101 3, locals := 21 }) s m args below meth c H locs (gR st 101 2 - gR st0 101 2) (gR st 101 3 - gR st0 101 3) (MQ below (rfQi D A b0 cA r st') args s (gR st' 101 2 - gR st0 101 2) (gR st' 101 3 - gR st0 101 3) A) (F0 m 207 ls []) := by
  obtain ⟨hx, hb, hml, hown, hts⟩ := S
  have hgw := fun (w : Cond) (h : w ∈ gwW) => hts w (List.mem_cons_of_mem _ h)
  have k97 := hgw _ w_bb1741c6
  have k100 := hgw _ w_36d04f4c
  have k103 := hgw _ w_05e7d7f0
  intro n
  induction n with
  | zero =>
    intro st x0 fx0 hf_fx0 x1 x2 x4 x6 x8 x9 x10 x11 H locs ls h hO hl E_st
    cases h
  | succ n ih =>
    intro st x0 fx0 hf_fx0 x1 x2 x4 x6 x8 x9 x10 x11 H locs ls h hO hl E_st
    unfold j_Mo_copied_L207 at h
    refine lv_iload hx hb dX9_copied_207 (lv_at hl 8 rfl) ?_
    refine lv_i2l hx hb dX9_copied_209 rfl ?_
    refine lv_lload hx hb dX9_copied_210 (lv_at hl 4 rfl) ?_
    refine W.lcmp hx hb dX9_copied_212 ?_
    refine lv_if_ge (tgt := 235) hx hb dX9_copied_213 (by decide) (fun c42 => ?_) (fun c42 => ?_)
    · have h := ite_t c42 h
      refine lv_iconst (v := 0) hx hb dX9_copied_235 (by decide) ?_
      refine lv_istore (lv' := [(11, .int ((0 : Int32))), (0, .ref fx0), (1, .int x1), (2, .long x2), (4, .long x4), (6, .long x6), (8, rq x8), (9, rq x9), (10, rq x10)]) hx hb dX9_copied_236 hl (by decide) (by simp [List.filter, rq_cat]) (fun ls hl => ?_)
      exact c_Mo_copied_L238 ⟨hx, hb, hml, hown, hts⟩ hr hlocks hK r st' st0 18 st x0 fx0 hf_fx0 x1 x2 x4 x6 x8 x9 x10 ((0 : Int32)) _ _ _ h hO (lv_sub hl [1, 2, 3, 4, 5, 6, 7, 8, 0] rfl) (show Ext st0 _ from E_st)
    · have h := ite_f c42 h
      refine rq_aload hx hb dX9_copied_216 (lv_at hl 7 rfl) ?_
      refine lv_iload hx hb dX9_copied_218 (lv_at hl 8 rfl) ?_
      refine rq_aload hx hb dX9_copied_220 (lv_at hl 5 rfl) ?_
      refine lv_lload_n hx hb dX9_copied_222 rfl (lv_at hl 2 rfl) ?_
      refine lv_l2i hx hb dX9_copied_223 rfl ?_
      refine lv_iload hx hb dX9_copied_224 (lv_at hl 8 rfl) ?_
      refine lv_iadd hx hb dX9_copied_226 ?_
      obtain ⟨hc48, h⟩ := ck_some h
      obtain ⟨hc49, h⟩ := ck_some h
      refine al_Row hx hb hK hO hc48 hc49 dX9_copied_227 ?_
      obtain ⟨hc50, h⟩ := ck_some h
      obtain ⟨hc51, h⟩ := ck_some h
      refine as_Row hx hb hK hO hc50 hc51 dX9_copied_228 (fun H locs hO => ?_)
      refine lv_iinc (v := x11 + (1 : Int32)) (lv' := [(11, .int (x11 + (1 : Int32))), (0, .ref fx0), (1, .int x1), (2, .long x2), (4, .long x4), (6, .long x6), (8, rq x8), (9, rq x9), (10, rq x10)]) hx hb dX9_copied_229 hl (k := 8) rfl rfl (by decide) (by simp [List.filter, rq_cat]) (fun ls hl => ?_)
      refine lv_goto (tgt := 207) hx hb dX9_copied_232 (by decide) ?_
      exact ih (sL st 9 (x10 - 1) (x11.toNatClampNeg) (gL st 9 (x8 - 1) ((x2.toInt32 + x11).toNatClampNeg))) x0 fx0 hf_fx0 x1 x2 x4 x6 x8 x9 x10 (x11 + (1 : Int32)) _ _ _ h hO (lv_sub hl [1, 2, 3, 4, 5, 6, 7, 8, 0] rfl) (show Ext st0 _ from E_st)
set_option maxHeartbeats 4000000 in
set_option maxRecDepth 100000 in
theorem c_Mo_copied (l : Launch) (D : va_G) (A : Nat → Prop) (b0 : Nat) (cA : Nat → ClassId) (st0 : CwS) (a0 : Nat) (fa0 : Nat) (hf_fa0 : rfF st0 a0 fa0) (a1 : Int32) (r : Int32) (st' : CwS) (h : j_Mo_copied a0 a1 st0 = some (r, st')) : Met l yX9_copied (wv yX9_copied cX9_copied 12 (some .int)) ({ frames := 1, cells := gR st' 101 2 - gR st0 101 2, slots := gR st' 101 3 - gR st0 101 3, locals := 21 }) (va_Pc [.ref fa0, .int a1] (rfU D A b0 cA st0)) (rfQi D A b0 cA r st') (gR st' 101 2 - gR st0 101 2) (gR st' 101 3 - gR st0 101 3) A := by
  refine Met.ofW (cc := cX9_copied) (maxL := 12) (ret := some .int) (by decide) rfl ?_
  intro p e s m args below meth c s₁ B hml hv
  obtain ⟨rfl, hP, hD, hz, hK⟩ := hv
  have hx := B.exec
  have hb := B.bytes
  have hr := B.returns
  have hts := atoms_spec (ws := wv yX9_copied cX9_copied 12 (some .int)) B.pre
  have hown : s.vm.findClass RX9 = some m.cls := findClass_of_methodNamed B.named
  have hlocks := B.notSynchronized
  have hO : rfO D A b0 cA s st0 s.heap [] := ⟨hP, hD, va_S.rf, hz⟩
  have hl := lv_entry ([.ref fa0, .int a1]) (n := 12) (Nat.le_of_ble_eq_true rfl)
  rw [lg_entry_eq]
  generalize (lg_sl ([.ref fa0, .int a1]) ++ List.replicate (12 - (lg_sl ([.ref fa0, .int a1])).length) Slot.unset).toArray = ls at hl ⊢
  have hl : lv_has ls 12 [(0, .ref fa0), (1, .int a1)] := hl
  have hgw := fun (w : Cond) (h : w ∈ gwW) => hts w (List.mem_cons_of_mem _ h)
  have k97 := hgw _ w_bb1741c6
  have k100 := hgw _ w_36d04f4c
  have k103 := hgw _ w_05e7d7f0
  unfold j_Mo_copied at h
  have E_st0 := Ext.refl st0
  refine W.widen (k := gR st0 101 2 - gR st0 101 2) (n := gR st0 101 3 - gR st0 101 3) (Nat.zero_le _) (Nat.zero_le _) ?_
  refine lv_aload_n hx hb dX9_copied_0 rfl (lv_at hl 0 rfl) ?_
  refine lv_iload_n hx hb dX9_copied_1 rfl (lv_at hl 1 rfl) ?_
  refine lv_iconst (v := 1) hx hb dX9_copied_2 (by decide) ?_
  refine lv_iadd hx hb dX9_copied_3 ?_
  have y_st2 : Ext st0 st' := by
    obtain ⟨r1, st2, h3, h⟩ := bR_some h
    refine Ext.trans (a := st0) (b := st2) (by have t := x_MF_isNumber h3; exact t) ?_
    by_cases c4 : r1 = ((0 : Int32))
    · have h := ite_t c4 h
      obtain ⟨-, rfl⟩ := ret2 h; exact (show Ext st2 _ from Ext.refl st2)
    · have h := ite_f c4 h
      obtain ⟨r5, st6, h7, h⟩ := bR_some h
      refine Ext.trans (a := st2) (b := st6) (by have t := x_MF_isNumber h7; exact t) ?_
      by_cases c8 : r5 = ((0 : Int32))
      · have h := ite_t c8 h
        obtain ⟨-, rfl⟩ := ret2 h; exact (show Ext st6 _ from Ext.refl st6)
      · have h := ite_f c8 h
        obtain ⟨r9, st10, h11, h⟩ := bR_some h
        refine Ext.trans (a := st6) (b := st10) (by have t := x_MF_isNumber h11; exact t) ?_
        by_cases c12 : r9 = ((0 : Int32))
        · have h := ite_t c12 h
          obtain ⟨-, rfl⟩ := ret2 h; exact (show Ext st10 _ from Ext.refl st10)
        · have h := ite_f c12 h
          obtain ⟨-, h⟩ := ck_some h
          by_cases c14 : (gI st10 21 a0 a1.toNatClampNeg) = ((3 : Int32))
          · have h := ite_t c14 h
            obtain ⟨-, rfl⟩ := ret2 h; exact (show Ext st10 _ from Ext.refl st10)
          · have h := ite_f c14 h
            obtain ⟨-, h⟩ := ck_some h
            by_cases c16 : (gI st10 21 a0 ((a1 + ((2 : Int32))).toNatClampNeg)) = ((3 : Int32))
            · have h := ite_t c16 h
              obtain ⟨-, rfl⟩ := ret2 h; exact (show Ext st10 _ from Ext.refl st10)
            · have h := ite_f c16 h
              obtain ⟨r17, st18, h19, h⟩ := bR_some h
              refine Ext.trans (a := st10) (b := st18) (by have t := x_MF_isNumber h19; exact t) ?_
              by_cases c20 : r17 = ((0 : Int32))
              · have h := ite_t c20 h
                obtain ⟨-, h⟩ := ck_some h
                obtain ⟨-, h⟩ := ck_some h
                by_cases c23 : (gI st18 21 a0 a1.toNatClampNeg) = (gI st18 21 a0 ((a1 + ((2 : Int32))).toNatClampNeg))
                · have h := ite_t c23 h
                  obtain ⟨-, h⟩ := ck_some h
                  obtain ⟨-, h⟩ := ck_some h
                  obtain ⟨-, h⟩ := ck_some h
                  obtain ⟨-, h⟩ := ck_some h
                  obtain ⟨-, h⟩ := ck_some h
                  by_cases c29 : (lg_cmp (gL st18 7 a0 ((a1 + ((4 : Int32))).toNatClampNeg)) ((0 : Int64))) < ((0 : Int32))
                  · have h := ite_t c29 h
                    obtain ⟨-, rfl⟩ := ret2 h; exact (show Ext st18 _ from Ext.refl st18)
                  · have h := ite_f c29 h
                    by_cases c30 : (lg_cmp (gL st18 7 a0 ((a1 + ((1 : Int32))).toNatClampNeg)) ((0 : Int64))) < ((0 : Int32))
                    · have h := ite_t c30 h
                      obtain ⟨-, rfl⟩ := ret2 h; exact (show Ext st18 _ from Ext.refl st18)
                    · have h := ite_f c30 h
                      by_cases c31 : (lg_cmp (gL st18 7 a0 ((a1 + ((3 : Int32))).toNatClampNeg)) ((0 : Int64))) < ((0 : Int32))
                      · have h := ite_t c31 h
                        obtain ⟨-, rfl⟩ := ret2 h; exact (show Ext st18 _ from Ext.refl st18)
                      · have h := ite_f c31 h
                        obtain ⟨-, h⟩ := ck_some h
                        by_cases c33 : ((0 : Int32)) < (lg_cmp (gL st18 7 a0 ((a1 + ((4 : Int32))).toNatClampNeg)) ((Int32.ofNat (gR st18 100 ((gR st18 50 (16 * a0 + a1.toNatClampNeg)) - 1))).toInt64))
                        · have h := ite_t c33 h
                          obtain ⟨-, rfl⟩ := ret2 h; exact (show Ext st18 _ from Ext.refl st18)
                        · have h := ite_f c33 h
                          obtain ⟨-, h⟩ := ck_some h
                          by_cases c35 : ((0 : Int32)) < (lg_cmp (gL st18 7 a0 ((a1 + ((4 : Int32))).toNatClampNeg)) ((Int32.ofNat (gR st18 100 ((gR st18 50 (16 * a0 + ((a1 + ((2 : Int32))).toNatClampNeg))) - 1))).toInt64))
                          · have h := ite_t c35 h
                            obtain ⟨-, rfl⟩ := ret2 h; exact (show Ext st18 _ from Ext.refl st18)
                          · have h := ite_f c35 h
                            obtain ⟨-, h⟩ := ck_some h
                            by_cases c37 : ((0 : Int32)) < (lg_cmp (gL st18 7 a0 ((a1 + ((1 : Int32))).toNatClampNeg)) (((Int32.ofNat (gR st18 100 ((gR st18 50 (16 * a0 + a1.toNatClampNeg)) - 1))).toInt64) - (gL st18 7 a0 ((a1 + ((4 : Int32))).toNatClampNeg))))
                            · have h := ite_t c37 h
                              obtain ⟨-, rfl⟩ := ret2 h; exact (show Ext st18 _ from Ext.refl st18)
                            · have h := ite_f c37 h
                              obtain ⟨-, h⟩ := ck_some h
                              by_cases c39 : (lg_cmp (gL st18 7 a0 ((a1 + ((3 : Int32))).toNatClampNeg)) (((Int32.ofNat (gR st18 100 ((gR st18 50 (16 * a0 + ((a1 + ((2 : Int32))).toNatClampNeg))) - 1))).toInt64) - (gL st18 7 a0 ((a1 + ((4 : Int32))).toNatClampNeg)))) ≤ ((0 : Int32))
                              · have h := ite_t c39 h
                                obtain ⟨-, h⟩ := ck_some h
                                obtain ⟨st41, e_st41, h⟩ := bS_some h
                                refine Ext.trans (b := st41) (by rw [e_st41]; exact Ext.new _ _) ?_
                                have t := x_Mo_copied_L207 _ _ _ _ _ _ _ _ _ _ _ h; exact (show Ext st41 _ from t)
                              · have h := ite_f c39 h
                                obtain ⟨-, rfl⟩ := ret2 h; exact (show Ext st18 _ from Ext.refl st18)
                · have h := ite_f c23 h
                  obtain ⟨-, rfl⟩ := ret2 h; exact (show Ext st18 _ from Ext.refl st18)
              · have h := ite_f c20 h
                obtain ⟨-, rfl⟩ := ret2 h; exact (show Ext st18 _ from Ext.refl st18)
  obtain ⟨r1, st2, h3, h⟩ := bR_some h
  have x_st2 : Ext st0 st2 := by have t := x_MF_isNumber h3; exact t
  refine rf_calli (va_runV (As := [.int (a1 + ((1 : Int32)))]) (rest := []) ⟨hx, hb, hml, hown, hts⟩ (c_MF_isNumber l D A b0 cA st0 a0 fa0 hf_fa0 (a1 + ((1 : Int32))) r1 st2 h3) (cwV 1 hts (gw_V w_c76bdf02 w_8ae0f39a w_9dc8e263 w_18ea82d2 w_a2deccac) rfl rfl rfl (by decide +kernel) ⟨by show 0 + 1 ≤ 1; omega, by show 8 + (2 + 11) + (0) ≤ 21; omega⟩) (rf_preF hf_fa0 hK hO) rfl rfl hl.1 rfl (lv_room (Nat.le_of_ble_eq_true rfl)) dX9_copied_4 ⟨by have q1 := E_st0; have q2 := y_st2; unfold Ext at q1 q2; show (gR st0 101 2 - gR st0 101 2) + 0 ≤ gR st' 101 2 - gR st0 101 2; omega, by have q1 := E_st0; have q2 := y_st2; unfold Ext at q1 q2; show (gR st0 101 3 - gR st0 101 3) + 0 ≤ gR st' 101 3 - gR st0 101 3; omega⟩) hO (fun H locs hO => ?_)
  have hf_fa0 : rfF st2 a0 fa0 := rfF.ext (show rfF st0 a0 fa0 from hf_fa0) x_st2
  have E_st2 : Ext st0 st2 := E_st0.trans x_st2
  refine W.widen (k := gR st2 101 2 - gR st0 101 2) (n := gR st2 101 3 - gR st0 101 3) (by have q1 := E_st0; have q2 := x_st2; unfold Ext at q1 q2; omega) (by have q1 := E_st0; have q2 := x_st2; unfold Ext at q1 q2; omega) ?_
  refine lv_if_eq (tgt := 30) hx hb dX9_copied_7 (by decide) (fun c4 => ?_) (fun c4 => ?_)
  · have h := ite_t c4 h
    refine lv_iconst (v := 4) hx hb dX9_copied_30 (by decide) ?_
    obtain ⟨rfl, rfl⟩ := ret2 h; exact rf_iret hx hb hr hlocks hO dX9_copied_31
  · have h := ite_f c4 h
    refine lv_aload_n hx hb dX9_copied_10 rfl (lv_at hl 0 rfl) ?_
    refine lv_iload_n hx hb dX9_copied_11 rfl (lv_at hl 1 rfl) ?_
    refine lv_iconst (v := 3) hx hb dX9_copied_12 (by decide) ?_
    refine lv_iadd hx hb dX9_copied_13 ?_
    have y_st6 : Ext st2 st' := by
      obtain ⟨r5, st6, h7, h⟩ := bR_some h
      refine Ext.trans (a := st2) (b := st6) (by have t := x_MF_isNumber h7; exact t) ?_
      by_cases c8 : r5 = ((0 : Int32))
      · have h := ite_t c8 h
        obtain ⟨-, rfl⟩ := ret2 h; exact (show Ext st6 _ from Ext.refl st6)
      · have h := ite_f c8 h
        obtain ⟨r9, st10, h11, h⟩ := bR_some h
        refine Ext.trans (a := st6) (b := st10) (by have t := x_MF_isNumber h11; exact t) ?_
        by_cases c12 : r9 = ((0 : Int32))
        · have h := ite_t c12 h
          obtain ⟨-, rfl⟩ := ret2 h; exact (show Ext st10 _ from Ext.refl st10)
        · have h := ite_f c12 h
          obtain ⟨-, h⟩ := ck_some h
          by_cases c14 : (gI st10 21 a0 a1.toNatClampNeg) = ((3 : Int32))
          · have h := ite_t c14 h
            obtain ⟨-, rfl⟩ := ret2 h; exact (show Ext st10 _ from Ext.refl st10)
          · have h := ite_f c14 h
            obtain ⟨-, h⟩ := ck_some h
            by_cases c16 : (gI st10 21 a0 ((a1 + ((2 : Int32))).toNatClampNeg)) = ((3 : Int32))
            · have h := ite_t c16 h
              obtain ⟨-, rfl⟩ := ret2 h; exact (show Ext st10 _ from Ext.refl st10)
            · have h := ite_f c16 h
              obtain ⟨r17, st18, h19, h⟩ := bR_some h
              refine Ext.trans (a := st10) (b := st18) (by have t := x_MF_isNumber h19; exact t) ?_
              by_cases c20 : r17 = ((0 : Int32))
              · have h := ite_t c20 h
                obtain ⟨-, h⟩ := ck_some h
                obtain ⟨-, h⟩ := ck_some h
                by_cases c23 : (gI st18 21 a0 a1.toNatClampNeg) = (gI st18 21 a0 ((a1 + ((2 : Int32))).toNatClampNeg))
                · have h := ite_t c23 h
                  obtain ⟨-, h⟩ := ck_some h
                  obtain ⟨-, h⟩ := ck_some h
                  obtain ⟨-, h⟩ := ck_some h
                  obtain ⟨-, h⟩ := ck_some h
                  obtain ⟨-, h⟩ := ck_some h
                  by_cases c29 : (lg_cmp (gL st18 7 a0 ((a1 + ((4 : Int32))).toNatClampNeg)) ((0 : Int64))) < ((0 : Int32))
                  · have h := ite_t c29 h
                    obtain ⟨-, rfl⟩ := ret2 h; exact (show Ext st18 _ from Ext.refl st18)
                  · have h := ite_f c29 h
                    by_cases c30 : (lg_cmp (gL st18 7 a0 ((a1 + ((1 : Int32))).toNatClampNeg)) ((0 : Int64))) < ((0 : Int32))
                    · have h := ite_t c30 h
                      obtain ⟨-, rfl⟩ := ret2 h; exact (show Ext st18 _ from Ext.refl st18)
                    · have h := ite_f c30 h
                      by_cases c31 : (lg_cmp (gL st18 7 a0 ((a1 + ((3 : Int32))).toNatClampNeg)) ((0 : Int64))) < ((0 : Int32))
                      · have h := ite_t c31 h
                        obtain ⟨-, rfl⟩ := ret2 h; exact (show Ext st18 _ from Ext.refl st18)
                      · have h := ite_f c31 h
                        obtain ⟨-, h⟩ := ck_some h
                        by_cases c33 : ((0 : Int32)) < (lg_cmp (gL st18 7 a0 ((a1 + ((4 : Int32))).toNatClampNeg)) ((Int32.ofNat (gR st18 100 ((gR st18 50 (16 * a0 + a1.toNatClampNeg)) - 1))).toInt64))
                        · have h := ite_t c33 h
                          obtain ⟨-, rfl⟩ := ret2 h; exact (show Ext st18 _ from Ext.refl st18)
                        · have h := ite_f c33 h
                          obtain ⟨-, h⟩ := ck_some h
                          by_cases c35 : ((0 : Int32)) < (lg_cmp (gL st18 7 a0 ((a1 + ((4 : Int32))).toNatClampNeg)) ((Int32.ofNat (gR st18 100 ((gR st18 50 (16 * a0 + ((a1 + ((2 : Int32))).toNatClampNeg))) - 1))).toInt64))
                          · have h := ite_t c35 h
                            obtain ⟨-, rfl⟩ := ret2 h; exact (show Ext st18 _ from Ext.refl st18)
                          · have h := ite_f c35 h
                            obtain ⟨-, h⟩ := ck_some h
                            by_cases c37 : ((0 : Int32)) < (lg_cmp (gL st18 7 a0 ((a1 + ((1 : Int32))).toNatClampNeg)) (((Int32.ofNat (gR st18 100 ((gR st18 50 (16 * a0 + a1.toNatClampNeg)) - 1))).toInt64) - (gL st18 7 a0 ((a1 + ((4 : Int32))).toNatClampNeg))))
                            · have h := ite_t c37 h
                              obtain ⟨-, rfl⟩ := ret2 h; exact (show Ext st18 _ from Ext.refl st18)
                            · have h := ite_f c37 h
                              obtain ⟨-, h⟩ := ck_some h
                              by_cases c39 : (lg_cmp (gL st18 7 a0 ((a1 + ((3 : Int32))).toNatClampNeg)) (((Int32.ofNat (gR st18 100 ((gR st18 50 (16 * a0 + ((a1 + ((2 : Int32))).toNatClampNeg))) - 1))).toInt64) - (gL st18 7 a0 ((a1 + ((4 : Int32))).toNatClampNeg)))) ≤ ((0 : Int32))
                              · have h := ite_t c39 h
                                obtain ⟨-, h⟩ := ck_some h
                                obtain ⟨st41, e_st41, h⟩ := bS_some h
                                refine Ext.trans (b := st41) (by rw [e_st41]; exact Ext.new _ _) ?_
                                have t := x_Mo_copied_L207 _ _ _ _ _ _ _ _ _ _ _ h; exact (show Ext st41 _ from t)
                              · have h := ite_f c39 h
                                obtain ⟨-, rfl⟩ := ret2 h; exact (show Ext st18 _ from Ext.refl st18)
                · have h := ite_f c23 h
                  obtain ⟨-, rfl⟩ := ret2 h; exact (show Ext st18 _ from Ext.refl st18)
              · have h := ite_f c20 h
                obtain ⟨-, rfl⟩ := ret2 h; exact (show Ext st18 _ from Ext.refl st18)
    obtain ⟨r5, st6, h7, h⟩ := bR_some h
    have x_st6 : Ext st2 st6 := by have t := x_MF_isNumber h7; exact t
    refine rf_calli (va_runV (As := [.int (a1 + ((3 : Int32)))]) (rest := []) ⟨hx, hb, hml, hown, hts⟩ (c_MF_isNumber l D A b0 cA st2 a0 fa0 hf_fa0 (a1 + ((3 : Int32))) r5 st6 h7) (cwV 1 hts (gw_V w_c76bdf02 w_8ae0f39a w_9dc8e263 w_18ea82d2 w_a2deccac) rfl rfl rfl (by decide +kernel) ⟨by show 0 + 1 ≤ 1; omega, by show 8 + (2 + 11) + (0) ≤ 21; omega⟩) (rf_preF hf_fa0 hK hO) rfl rfl hl.1 rfl (lv_room (Nat.le_of_ble_eq_true rfl)) dX9_copied_14 ⟨by have q1 := E_st2; have q2 := y_st6; unfold Ext at q1 q2; show (gR st2 101 2 - gR st0 101 2) + 0 ≤ gR st' 101 2 - gR st0 101 2; omega, by have q1 := E_st2; have q2 := y_st6; unfold Ext at q1 q2; show (gR st2 101 3 - gR st0 101 3) + 0 ≤ gR st' 101 3 - gR st0 101 3; omega⟩) hO (fun H locs hO => ?_)
    have hf_fa0 : rfF st6 a0 fa0 := rfF.ext (show rfF st2 a0 fa0 from hf_fa0) x_st6
    have E_st6 : Ext st0 st6 := E_st2.trans x_st6
    refine W.widen (k := gR st6 101 2 - gR st0 101 2) (n := gR st6 101 3 - gR st0 101 3) (by have q1 := E_st2; have q2 := x_st6; unfold Ext at q1 q2; omega) (by have q1 := E_st2; have q2 := x_st6; unfold Ext at q1 q2; omega) ?_
    refine lv_if_eq (tgt := 30) hx hb dX9_copied_17 (by decide) (fun c8 => ?_) (fun c8 => ?_)
    · have h := ite_t c8 h
      refine lv_iconst (v := 4) hx hb dX9_copied_30 (by decide) ?_
      obtain ⟨rfl, rfl⟩ := ret2 h; exact rf_iret hx hb hr hlocks hO dX9_copied_31
    · have h := ite_f c8 h
      refine lv_aload_n hx hb dX9_copied_20 rfl (lv_at hl 0 rfl) ?_
      refine lv_iload_n hx hb dX9_copied_21 rfl (lv_at hl 1 rfl) ?_
      refine lv_iconst (v := 4) hx hb dX9_copied_22 (by decide) ?_
      refine lv_iadd hx hb dX9_copied_23 ?_
      have y_st10 : Ext st6 st' := by
        obtain ⟨r9, st10, h11, h⟩ := bR_some h
        refine Ext.trans (a := st6) (b := st10) (by have t := x_MF_isNumber h11; exact t) ?_
        by_cases c12 : r9 = ((0 : Int32))
        · have h := ite_t c12 h
          obtain ⟨-, rfl⟩ := ret2 h; exact (show Ext st10 _ from Ext.refl st10)
        · have h := ite_f c12 h
          obtain ⟨-, h⟩ := ck_some h
          by_cases c14 : (gI st10 21 a0 a1.toNatClampNeg) = ((3 : Int32))
          · have h := ite_t c14 h
            obtain ⟨-, rfl⟩ := ret2 h; exact (show Ext st10 _ from Ext.refl st10)
          · have h := ite_f c14 h
            obtain ⟨-, h⟩ := ck_some h
            by_cases c16 : (gI st10 21 a0 ((a1 + ((2 : Int32))).toNatClampNeg)) = ((3 : Int32))
            · have h := ite_t c16 h
              obtain ⟨-, rfl⟩ := ret2 h; exact (show Ext st10 _ from Ext.refl st10)
            · have h := ite_f c16 h
              obtain ⟨r17, st18, h19, h⟩ := bR_some h
              refine Ext.trans (a := st10) (b := st18) (by have t := x_MF_isNumber h19; exact t) ?_
              by_cases c20 : r17 = ((0 : Int32))
              · have h := ite_t c20 h
                obtain ⟨-, h⟩ := ck_some h
                obtain ⟨-, h⟩ := ck_some h
                by_cases c23 : (gI st18 21 a0 a1.toNatClampNeg) = (gI st18 21 a0 ((a1 + ((2 : Int32))).toNatClampNeg))
                · have h := ite_t c23 h
                  obtain ⟨-, h⟩ := ck_some h
                  obtain ⟨-, h⟩ := ck_some h
                  obtain ⟨-, h⟩ := ck_some h
                  obtain ⟨-, h⟩ := ck_some h
                  obtain ⟨-, h⟩ := ck_some h
                  by_cases c29 : (lg_cmp (gL st18 7 a0 ((a1 + ((4 : Int32))).toNatClampNeg)) ((0 : Int64))) < ((0 : Int32))
                  · have h := ite_t c29 h
                    obtain ⟨-, rfl⟩ := ret2 h; exact (show Ext st18 _ from Ext.refl st18)
                  · have h := ite_f c29 h
                    by_cases c30 : (lg_cmp (gL st18 7 a0 ((a1 + ((1 : Int32))).toNatClampNeg)) ((0 : Int64))) < ((0 : Int32))
                    · have h := ite_t c30 h
                      obtain ⟨-, rfl⟩ := ret2 h; exact (show Ext st18 _ from Ext.refl st18)
                    · have h := ite_f c30 h
                      by_cases c31 : (lg_cmp (gL st18 7 a0 ((a1 + ((3 : Int32))).toNatClampNeg)) ((0 : Int64))) < ((0 : Int32))
                      · have h := ite_t c31 h
                        obtain ⟨-, rfl⟩ := ret2 h; exact (show Ext st18 _ from Ext.refl st18)
                      · have h := ite_f c31 h
                        obtain ⟨-, h⟩ := ck_some h
                        by_cases c33 : ((0 : Int32)) < (lg_cmp (gL st18 7 a0 ((a1 + ((4 : Int32))).toNatClampNeg)) ((Int32.ofNat (gR st18 100 ((gR st18 50 (16 * a0 + a1.toNatClampNeg)) - 1))).toInt64))
                        · have h := ite_t c33 h
                          obtain ⟨-, rfl⟩ := ret2 h; exact (show Ext st18 _ from Ext.refl st18)
                        · have h := ite_f c33 h
                          obtain ⟨-, h⟩ := ck_some h
                          by_cases c35 : ((0 : Int32)) < (lg_cmp (gL st18 7 a0 ((a1 + ((4 : Int32))).toNatClampNeg)) ((Int32.ofNat (gR st18 100 ((gR st18 50 (16 * a0 + ((a1 + ((2 : Int32))).toNatClampNeg))) - 1))).toInt64))
                          · have h := ite_t c35 h
                            obtain ⟨-, rfl⟩ := ret2 h; exact (show Ext st18 _ from Ext.refl st18)
                          · have h := ite_f c35 h
                            obtain ⟨-, h⟩ := ck_some h
                            by_cases c37 : ((0 : Int32)) < (lg_cmp (gL st18 7 a0 ((a1 + ((1 : Int32))).toNatClampNeg)) (((Int32.ofNat (gR st18 100 ((gR st18 50 (16 * a0 + a1.toNatClampNeg)) - 1))).toInt64) - (gL st18 7 a0 ((a1 + ((4 : Int32))).toNatClampNeg))))
                            · have h := ite_t c37 h
                              obtain ⟨-, rfl⟩ := ret2 h; exact (show Ext st18 _ from Ext.refl st18)
                            · have h := ite_f c37 h
                              obtain ⟨-, h⟩ := ck_some h
                              by_cases c39 : (lg_cmp (gL st18 7 a0 ((a1 + ((3 : Int32))).toNatClampNeg)) (((Int32.ofNat (gR st18 100 ((gR st18 50 (16 * a0 + ((a1 + ((2 : Int32))).toNatClampNeg))) - 1))).toInt64) - (gL st18 7 a0 ((a1 + ((4 : Int32))).toNatClampNeg)))) ≤ ((0 : Int32))
                              · have h := ite_t c39 h
                                obtain ⟨-, h⟩ := ck_some h
                                obtain ⟨st41, e_st41, h⟩ := bS_some h
                                refine Ext.trans (b := st41) (by rw [e_st41]; exact Ext.new _ _) ?_
                                have t := x_Mo_copied_L207 _ _ _ _ _ _ _ _ _ _ _ h; exact (show Ext st41 _ from t)
                              · have h := ite_f c39 h
                                obtain ⟨-, rfl⟩ := ret2 h; exact (show Ext st18 _ from Ext.refl st18)
                · have h := ite_f c23 h
                  obtain ⟨-, rfl⟩ := ret2 h; exact (show Ext st18 _ from Ext.refl st18)
              · have h := ite_f c20 h
                obtain ⟨-, rfl⟩ := ret2 h; exact (show Ext st18 _ from Ext.refl st18)
      obtain ⟨r9, st10, h11, h⟩ := bR_some h
      have x_st10 : Ext st6 st10 := by have t := x_MF_isNumber h11; exact t
      refine rf_calli (va_runV (As := [.int (a1 + ((4 : Int32)))]) (rest := []) ⟨hx, hb, hml, hown, hts⟩ (c_MF_isNumber l D A b0 cA st6 a0 fa0 hf_fa0 (a1 + ((4 : Int32))) r9 st10 h11) (cwV 1 hts (gw_V w_c76bdf02 w_8ae0f39a w_9dc8e263 w_18ea82d2 w_a2deccac) rfl rfl rfl (by decide +kernel) ⟨by show 0 + 1 ≤ 1; omega, by show 8 + (2 + 11) + (0) ≤ 21; omega⟩) (rf_preF hf_fa0 hK hO) rfl rfl hl.1 rfl (lv_room (Nat.le_of_ble_eq_true rfl)) dX9_copied_24 ⟨by have q1 := E_st6; have q2 := y_st10; unfold Ext at q1 q2; show (gR st6 101 2 - gR st0 101 2) + 0 ≤ gR st' 101 2 - gR st0 101 2; omega, by have q1 := E_st6; have q2 := y_st10; unfold Ext at q1 q2; show (gR st6 101 3 - gR st0 101 3) + 0 ≤ gR st' 101 3 - gR st0 101 3; omega⟩) hO (fun H locs hO => ?_)
      have hf_fa0 : rfF st10 a0 fa0 := rfF.ext (show rfF st6 a0 fa0 from hf_fa0) x_st10
      have E_st10 : Ext st0 st10 := E_st6.trans x_st10
      refine W.widen (k := gR st10 101 2 - gR st0 101 2) (n := gR st10 101 3 - gR st0 101 3) (by have q1 := E_st6; have q2 := x_st10; unfold Ext at q1 q2; omega) (by have q1 := E_st6; have q2 := x_st10; unfold Ext at q1 q2; omega) ?_
      refine lv_if_ne (tgt := 32) hx hb dX9_copied_27 (by decide) (fun c12 => ?_) (fun c12 => ?_)
      · have h := ite_f c12 h
        refine lv_aload_n hx hb dX9_copied_32 rfl (lv_at hl 0 rfl) ?_
        refine gf_MF_sorts hx hb hgw iwMF hown hK hO hf_fa0 k100 dX9_copied_33 ?_
        refine lv_iload_n hx hb dX9_copied_36 rfl (lv_at hl 1 rfl) ?_
        obtain ⟨hc13, h⟩ := ck_some h
        refine al_MSorts hx hb hK hO hf_fa0 hc13 dX9_copied_37 ?_
        refine lv_iconst (v := 3) hx hb dX9_copied_38 (by decide) ?_
        refine lv_icmp_eq (tgt := 54) hx hb dX9_copied_39 (by decide) (fun c14 => ?_) (fun c14 => ?_)
        · have h := ite_t c14 h
          refine lv_iconst (v := 2) hx hb dX9_copied_54 (by decide) ?_
          obtain ⟨rfl, rfl⟩ := ret2 h; exact rf_iret hx hb hr hlocks hO dX9_copied_55
        · have h := ite_f c14 h
          refine lv_aload_n hx hb dX9_copied_42 rfl (lv_at hl 0 rfl) ?_
          refine gf_MF_sorts hx hb hgw iwMF hown hK hO hf_fa0 k100 dX9_copied_43 ?_
          refine lv_iload_n hx hb dX9_copied_46 rfl (lv_at hl 1 rfl) ?_
          refine lv_iconst (v := 2) hx hb dX9_copied_47 (by decide) ?_
          refine lv_iadd hx hb dX9_copied_48 ?_
          obtain ⟨hc15, h⟩ := ck_some h
          refine al_MSorts hx hb hK hO hf_fa0 hc15 dX9_copied_49 ?_
          refine lv_iconst (v := 3) hx hb dX9_copied_50 (by decide) ?_
          refine lv_icmp_ne (tgt := 56) hx hb dX9_copied_51 (by decide) (fun c16 => ?_) (fun c16 => ?_)
          · have h := ite_f c16 h
            refine lv_aload_n hx hb dX9_copied_56 rfl (lv_at hl 0 rfl) ?_
            refine lv_iload_n hx hb dX9_copied_57 rfl (lv_at hl 1 rfl) ?_
            have y_st18 : Ext st10 st' := by
              obtain ⟨r17, st18, h19, h⟩ := bR_some h
              refine Ext.trans (a := st10) (b := st18) (by have t := x_MF_isNumber h19; exact t) ?_
              by_cases c20 : r17 = ((0 : Int32))
              · have h := ite_t c20 h
                obtain ⟨-, h⟩ := ck_some h
                obtain ⟨-, h⟩ := ck_some h
                by_cases c23 : (gI st18 21 a0 a1.toNatClampNeg) = (gI st18 21 a0 ((a1 + ((2 : Int32))).toNatClampNeg))
                · have h := ite_t c23 h
                  obtain ⟨-, h⟩ := ck_some h
                  obtain ⟨-, h⟩ := ck_some h
                  obtain ⟨-, h⟩ := ck_some h
                  obtain ⟨-, h⟩ := ck_some h
                  obtain ⟨-, h⟩ := ck_some h
                  by_cases c29 : (lg_cmp (gL st18 7 a0 ((a1 + ((4 : Int32))).toNatClampNeg)) ((0 : Int64))) < ((0 : Int32))
                  · have h := ite_t c29 h
                    obtain ⟨-, rfl⟩ := ret2 h; exact (show Ext st18 _ from Ext.refl st18)
                  · have h := ite_f c29 h
                    by_cases c30 : (lg_cmp (gL st18 7 a0 ((a1 + ((1 : Int32))).toNatClampNeg)) ((0 : Int64))) < ((0 : Int32))
                    · have h := ite_t c30 h
                      obtain ⟨-, rfl⟩ := ret2 h; exact (show Ext st18 _ from Ext.refl st18)
                    · have h := ite_f c30 h
                      by_cases c31 : (lg_cmp (gL st18 7 a0 ((a1 + ((3 : Int32))).toNatClampNeg)) ((0 : Int64))) < ((0 : Int32))
                      · have h := ite_t c31 h
                        obtain ⟨-, rfl⟩ := ret2 h; exact (show Ext st18 _ from Ext.refl st18)
                      · have h := ite_f c31 h
                        obtain ⟨-, h⟩ := ck_some h
                        by_cases c33 : ((0 : Int32)) < (lg_cmp (gL st18 7 a0 ((a1 + ((4 : Int32))).toNatClampNeg)) ((Int32.ofNat (gR st18 100 ((gR st18 50 (16 * a0 + a1.toNatClampNeg)) - 1))).toInt64))
                        · have h := ite_t c33 h
                          obtain ⟨-, rfl⟩ := ret2 h; exact (show Ext st18 _ from Ext.refl st18)
                        · have h := ite_f c33 h
                          obtain ⟨-, h⟩ := ck_some h
                          by_cases c35 : ((0 : Int32)) < (lg_cmp (gL st18 7 a0 ((a1 + ((4 : Int32))).toNatClampNeg)) ((Int32.ofNat (gR st18 100 ((gR st18 50 (16 * a0 + ((a1 + ((2 : Int32))).toNatClampNeg))) - 1))).toInt64))
                          · have h := ite_t c35 h
                            obtain ⟨-, rfl⟩ := ret2 h; exact (show Ext st18 _ from Ext.refl st18)
                          · have h := ite_f c35 h
                            obtain ⟨-, h⟩ := ck_some h
                            by_cases c37 : ((0 : Int32)) < (lg_cmp (gL st18 7 a0 ((a1 + ((1 : Int32))).toNatClampNeg)) (((Int32.ofNat (gR st18 100 ((gR st18 50 (16 * a0 + a1.toNatClampNeg)) - 1))).toInt64) - (gL st18 7 a0 ((a1 + ((4 : Int32))).toNatClampNeg))))
                            · have h := ite_t c37 h
                              obtain ⟨-, rfl⟩ := ret2 h; exact (show Ext st18 _ from Ext.refl st18)
                            · have h := ite_f c37 h
                              obtain ⟨-, h⟩ := ck_some h
                              by_cases c39 : (lg_cmp (gL st18 7 a0 ((a1 + ((3 : Int32))).toNatClampNeg)) (((Int32.ofNat (gR st18 100 ((gR st18 50 (16 * a0 + ((a1 + ((2 : Int32))).toNatClampNeg))) - 1))).toInt64) - (gL st18 7 a0 ((a1 + ((4 : Int32))).toNatClampNeg)))) ≤ ((0 : Int32))
                              · have h := ite_t c39 h
                                obtain ⟨-, h⟩ := ck_some h
                                obtain ⟨st41, e_st41, h⟩ := bS_some h
                                refine Ext.trans (b := st41) (by rw [e_st41]; exact Ext.new _ _) ?_
                                have t := x_Mo_copied_L207 _ _ _ _ _ _ _ _ _ _ _ h; exact (show Ext st41 _ from t)
                              · have h := ite_f c39 h
                                obtain ⟨-, rfl⟩ := ret2 h; exact (show Ext st18 _ from Ext.refl st18)
                · have h := ite_f c23 h
                  obtain ⟨-, rfl⟩ := ret2 h; exact (show Ext st18 _ from Ext.refl st18)
              · have h := ite_f c20 h
                obtain ⟨-, rfl⟩ := ret2 h; exact (show Ext st18 _ from Ext.refl st18)
            obtain ⟨r17, st18, h19, h⟩ := bR_some h
            have x_st18 : Ext st10 st18 := by have t := x_MF_isNumber h19; exact t
            refine rf_calli (va_runV (As := [.int a1]) (rest := []) ⟨hx, hb, hml, hown, hts⟩ (c_MF_isNumber l D A b0 cA st10 a0 fa0 hf_fa0 a1 r17 st18 h19) (cwV 1 hts (gw_V w_c76bdf02 w_8ae0f39a w_9dc8e263 w_18ea82d2 w_a2deccac) rfl rfl rfl (by decide +kernel) ⟨by show 0 + 1 ≤ 1; omega, by show 8 + (2 + 11) + (0) ≤ 21; omega⟩) (rf_preF hf_fa0 hK hO) rfl rfl hl.1 rfl (lv_room (Nat.le_of_ble_eq_true rfl)) dX9_copied_58 ⟨by have q1 := E_st10; have q2 := y_st18; unfold Ext at q1 q2; show (gR st10 101 2 - gR st0 101 2) + 0 ≤ gR st' 101 2 - gR st0 101 2; omega, by have q1 := E_st10; have q2 := y_st18; unfold Ext at q1 q2; show (gR st10 101 3 - gR st0 101 3) + 0 ≤ gR st' 101 3 - gR st0 101 3; omega⟩) hO (fun H locs hO => ?_)
            have hf_fa0 : rfF st18 a0 fa0 := rfF.ext (show rfF st10 a0 fa0 from hf_fa0) x_st18
            have E_st18 : Ext st0 st18 := E_st10.trans x_st18
            refine W.widen (k := gR st18 101 2 - gR st0 101 2) (n := gR st18 101 3 - gR st0 101 3) (by have q1 := E_st10; have q2 := x_st18; unfold Ext at q1 q2; omega) (by have q1 := E_st10; have q2 := x_st18; unfold Ext at q1 q2; omega) ?_
            refine lv_if_ne (tgt := 81) hx hb dX9_copied_61 (by decide) (fun c20 => ?_) (fun c20 => ?_)
            · have h := ite_f c20 h
              refine lv_iconst (v := 4) hx hb dX9_copied_81 (by decide) ?_
              obtain ⟨rfl, rfl⟩ := ret2 h; exact rf_iret hx hb hr hlocks hO dX9_copied_82
            · have h := ite_t c20 h
              refine lv_aload_n hx hb dX9_copied_64 rfl (lv_at hl 0 rfl) ?_
              refine gf_MF_sorts hx hb hgw iwMF hown hK hO hf_fa0 k100 dX9_copied_65 ?_
              refine lv_iload_n hx hb dX9_copied_68 rfl (lv_at hl 1 rfl) ?_
              obtain ⟨hc21, h⟩ := ck_some h
              refine al_MSorts hx hb hK hO hf_fa0 hc21 dX9_copied_69 ?_
              refine lv_aload_n hx hb dX9_copied_70 rfl (lv_at hl 0 rfl) ?_
              refine gf_MF_sorts hx hb hgw iwMF hown hK hO hf_fa0 k100 dX9_copied_71 ?_
              refine lv_iload_n hx hb dX9_copied_74 rfl (lv_at hl 1 rfl) ?_
              refine lv_iconst (v := 2) hx hb dX9_copied_75 (by decide) ?_
              refine lv_iadd hx hb dX9_copied_76 ?_
              obtain ⟨hc22, h⟩ := ck_some h
              refine al_MSorts hx hb hK hO hf_fa0 hc22 dX9_copied_77 ?_
              refine lv_icmp_eq (tgt := 83) hx hb dX9_copied_78 (by decide) (fun c23 => ?_) (fun c23 => ?_)
              · have h := ite_t c23 h
                refine lv_aload_n hx hb dX9_copied_83 rfl (lv_at hl 0 rfl) ?_
                refine gf_MF_n hx hb hgw iwMF hown hK hO hf_fa0 k97 dX9_copied_84 ?_
                refine lv_iload_n hx hb dX9_copied_87 rfl (lv_at hl 1 rfl) ?_
                refine lv_iconst (v := 1) hx hb dX9_copied_88 (by decide) ?_
                refine lv_iadd hx hb dX9_copied_89 ?_
                obtain ⟨hc24, h⟩ := ck_some h
                refine al_MN hx hb hK hO hf_fa0 hc24 dX9_copied_90 ?_
                refine lv_lstore_n (lv' := [(2, .long (gL st18 7 a0 ((a1 + ((1 : Int32))).toNatClampNeg))), (0, .ref fa0), (1, .int a1)]) hx hb dX9_copied_91 rfl hl (by decide) rfl (fun ls hl => ?_)
                refine lv_aload_n hx hb dX9_copied_92 rfl (lv_at hl 1 rfl) ?_
                refine gf_MF_n hx hb hgw iwMF hown hK hO hf_fa0 k97 dX9_copied_93 ?_
                refine lv_iload_n hx hb dX9_copied_96 rfl (lv_at hl 2 rfl) ?_
                refine lv_iconst (v := 3) hx hb dX9_copied_97 (by decide) ?_
                refine lv_iadd hx hb dX9_copied_98 ?_
                obtain ⟨hc25, h⟩ := ck_some h
                refine al_MN hx hb hK hO hf_fa0 hc25 dX9_copied_99 ?_
                refine lv_lstore (lv' := [(4, .long (gL st18 7 a0 ((a1 + ((3 : Int32))).toNatClampNeg))), (2, .long (gL st18 7 a0 ((a1 + ((1 : Int32))).toNatClampNeg))), (0, .ref fa0), (1, .int a1)]) hx hb dX9_copied_100 hl (by decide) rfl (fun ls hl => ?_)
                refine lv_aload_n hx hb dX9_copied_102 rfl (lv_at hl 2 rfl) ?_
                refine gf_MF_n hx hb hgw iwMF hown hK hO hf_fa0 k97 dX9_copied_103 ?_
                refine lv_iload_n hx hb dX9_copied_106 rfl (lv_at hl 3 rfl) ?_
                refine lv_iconst (v := 4) hx hb dX9_copied_107 (by decide) ?_
                refine lv_iadd hx hb dX9_copied_108 ?_
                obtain ⟨hc26, h⟩ := ck_some h
                refine al_MN hx hb hK hO hf_fa0 hc26 dX9_copied_109 ?_
                refine lv_lstore (lv' := [(6, .long (gL st18 7 a0 ((a1 + ((4 : Int32))).toNatClampNeg))), (4, .long (gL st18 7 a0 ((a1 + ((3 : Int32))).toNatClampNeg))), (2, .long (gL st18 7 a0 ((a1 + ((1 : Int32))).toNatClampNeg))), (0, .ref fa0), (1, .int a1)]) hx hb dX9_copied_110 hl (by decide) rfl (fun ls hl => ?_)
                refine lv_aload_n hx hb dX9_copied_112 rfl (lv_at hl 3 rfl) ?_
                refine gf_MF_rows hx hb hgw iwMF hown hK hO hf_fa0 k103 dX9_copied_113 ?_
                refine lv_iload_n hx hb dX9_copied_116 rfl (lv_at hl 4 rfl) ?_
                obtain ⟨hc27, h⟩ := ck_some h
                refine al_MRows hx hb hK hO hf_fa0 hc27 dX9_copied_117 ?_
                refine rq_astore (r := gR st18 50 (16 * a0 + a1.toNatClampNeg)) (lv' := [(8, rq (gR st18 50 (16 * a0 + a1.toNatClampNeg))), (6, .long (gL st18 7 a0 ((a1 + ((4 : Int32))).toNatClampNeg))), (4, .long (gL st18 7 a0 ((a1 + ((3 : Int32))).toNatClampNeg))), (2, .long (gL st18 7 a0 ((a1 + ((1 : Int32))).toNatClampNeg))), (0, .ref fa0), (1, .int a1)]) hx hb dX9_copied_118 hl (by decide) rfl (fun ls hl => ?_)
                refine lv_aload_n hx hb dX9_copied_120 rfl (lv_at hl 4 rfl) ?_
                refine gf_MF_rows hx hb hgw iwMF hown hK hO hf_fa0 k103 dX9_copied_121 ?_
                refine lv_iload_n hx hb dX9_copied_124 rfl (lv_at hl 5 rfl) ?_
                refine lv_iconst (v := 2) hx hb dX9_copied_125 (by decide) ?_
                refine lv_iadd hx hb dX9_copied_126 ?_
                obtain ⟨hc28, h⟩ := ck_some h
                refine al_MRows hx hb hK hO hf_fa0 hc28 dX9_copied_127 ?_
                refine rq_astore (r := gR st18 50 (16 * a0 + ((a1 + ((2 : Int32))).toNatClampNeg))) (lv' := [(9, rq (gR st18 50 (16 * a0 + ((a1 + ((2 : Int32))).toNatClampNeg)))), (8, rq (gR st18 50 (16 * a0 + a1.toNatClampNeg))), (6, .long (gL st18 7 a0 ((a1 + ((4 : Int32))).toNatClampNeg))), (4, .long (gL st18 7 a0 ((a1 + ((3 : Int32))).toNatClampNeg))), (2, .long (gL st18 7 a0 ((a1 + ((1 : Int32))).toNatClampNeg))), (0, .ref fa0), (1, .int a1)]) hx hb dX9_copied_128 hl (by decide) (by simp [List.filter, rq_cat]) (fun ls hl => ?_)
                refine lv_lload hx hb dX9_copied_130 (lv_at hl 2 rfl) ?_
                refine lv_lconst (v := 0) hx hb dX9_copied_132 (by decide) ?_
                refine W.lcmp hx hb dX9_copied_133 ?_
                refine lv_if_lt (tgt := 195) hx hb dX9_copied_134 (by decide) (fun c29 => ?_) (fun c29 => ?_)
                · have h := ite_t c29 h
                  refine lv_iconst (v := 3) hx hb dX9_copied_195 (by decide) ?_
                  obtain ⟨rfl, rfl⟩ := ret2 h; exact rf_iret hx hb hr hlocks hO dX9_copied_196
                · have h := ite_f c29 h
                  refine lv_lload_n hx hb dX9_copied_137 rfl (lv_at hl 4 rfl) ?_
                  refine lv_lconst (v := 0) hx hb dX9_copied_138 (by decide) ?_
                  refine W.lcmp hx hb dX9_copied_139 ?_
                  refine lv_if_lt (tgt := 195) hx hb dX9_copied_140 (by decide) (fun c30 => ?_) (fun c30 => ?_)
                  · have h := ite_t c30 h
                    refine lv_iconst (v := 3) hx hb dX9_copied_195 (by decide) ?_
                    obtain ⟨rfl, rfl⟩ := ret2 h; exact rf_iret hx hb hr hlocks hO dX9_copied_196
                  · have h := ite_f c30 h
                    refine lv_lload hx hb dX9_copied_143 (lv_at hl 3 rfl) ?_
                    refine lv_lconst (v := 0) hx hb dX9_copied_145 (by decide) ?_
                    refine W.lcmp hx hb dX9_copied_146 ?_
                    refine lv_if_lt (tgt := 195) hx hb dX9_copied_147 (by decide) (fun c31 => ?_) (fun c31 => ?_)
                    · have h := ite_t c31 h
                      refine lv_iconst (v := 3) hx hb dX9_copied_195 (by decide) ?_
                      obtain ⟨rfl, rfl⟩ := ret2 h; exact rf_iret hx hb hr hlocks hO dX9_copied_196
                    · have h := ite_f c31 h
                      refine lv_lload hx hb dX9_copied_150 (lv_at hl 2 rfl) ?_
                      refine rq_aload hx hb dX9_copied_152 (lv_at hl 1 rfl) ?_
                      obtain ⟨hc32, h⟩ := ck_some h
                      refine an_Row hx hb hK hO hc32 dX9_copied_154 ?_
                      refine lv_i2l hx hb dX9_copied_155 rfl ?_
                      refine W.lcmp hx hb dX9_copied_156 ?_
                      refine lv_if_gt (tgt := 195) hx hb dX9_copied_157 (by decide) (fun c33 => ?_) (fun c33 => ?_)
                      · have h := ite_t c33 h
                        refine lv_iconst (v := 3) hx hb dX9_copied_195 (by decide) ?_
                        obtain ⟨rfl, rfl⟩ := ret2 h; exact rf_iret hx hb hr hlocks hO dX9_copied_196
                      · have h := ite_f c33 h
                        refine lv_lload hx hb dX9_copied_160 (lv_at hl 2 rfl) ?_
                        refine rq_aload hx hb dX9_copied_162 (lv_at hl 0 rfl) ?_
                        obtain ⟨hc34, h⟩ := ck_some h
                        refine an_Row hx hb hK hO hc34 dX9_copied_164 ?_
                        refine lv_i2l hx hb dX9_copied_165 rfl ?_
                        refine W.lcmp hx hb dX9_copied_166 ?_
                        refine lv_if_gt (tgt := 195) hx hb dX9_copied_167 (by decide) (fun c35 => ?_) (fun c35 => ?_)
                        · have h := ite_t c35 h
                          refine lv_iconst (v := 3) hx hb dX9_copied_195 (by decide) ?_
                          obtain ⟨rfl, rfl⟩ := ret2 h; exact rf_iret hx hb hr hlocks hO dX9_copied_196
                        · have h := ite_f c35 h
                          refine lv_lload_n hx hb dX9_copied_170 rfl (lv_at hl 4 rfl) ?_
                          refine rq_aload hx hb dX9_copied_171 (lv_at hl 1 rfl) ?_
                          obtain ⟨hc36, h⟩ := ck_some h
                          refine an_Row hx hb hK hO hc36 dX9_copied_173 ?_
                          refine lv_i2l hx hb dX9_copied_174 rfl ?_
                          refine lv_lload hx hb dX9_copied_175 (lv_at hl 2 rfl) ?_
                          refine lv_lsub hx hb dX9_copied_177 ?_
                          refine W.lcmp hx hb dX9_copied_178 ?_
                          refine lv_if_gt (tgt := 195) hx hb dX9_copied_179 (by decide) (fun c37 => ?_) (fun c37 => ?_)
                          · have h := ite_t c37 h
                            refine lv_iconst (v := 3) hx hb dX9_copied_195 (by decide) ?_
                            obtain ⟨rfl, rfl⟩ := ret2 h; exact rf_iret hx hb hr hlocks hO dX9_copied_196
                          · have h := ite_f c37 h
                            refine lv_lload hx hb dX9_copied_182 (lv_at hl 3 rfl) ?_
                            refine rq_aload hx hb dX9_copied_184 (lv_at hl 0 rfl) ?_
                            obtain ⟨hc38, h⟩ := ck_some h
                            refine an_Row hx hb hK hO hc38 dX9_copied_186 ?_
                            refine lv_i2l hx hb dX9_copied_187 rfl ?_
                            refine lv_lload hx hb dX9_copied_188 (lv_at hl 2 rfl) ?_
                            refine lv_lsub hx hb dX9_copied_190 ?_
                            refine W.lcmp hx hb dX9_copied_191 ?_
                            refine lv_if_le (tgt := 197) hx hb dX9_copied_192 (by decide) (fun c39 => ?_) (fun c39 => ?_)
                            · have h := ite_t c39 h
                              refine lv_lload hx hb dX9_copied_197 (lv_at hl 2 rfl) ?_
                              refine lv_l2i hx hb dX9_copied_199 rfl ?_
                              obtain ⟨hc40, h⟩ := ck_some h
                              obtain ⟨st41, e_st41, h⟩ := bS_some h
                              have x_st41 : Ext st18 st41 := by rw [e_st41]; exact Ext.new _ _
                              have y_st41 : Ext st41 st' := by
                                have t := x_Mo_copied_L207 _ _ _ _ _ _ _ _ _ _ _ h; exact (show Ext st41 _ from t)
                              have z_st41 : gR st41 101 2 = gR st18 101 2 + 1 := by rw [e_st41]; rfl
                              have w_st41 : gR st41 101 3 = gR st18 101 3 + ((gL st18 7 a0 ((a1 + ((4 : Int32))).toNatClampNeg)).toInt32).toNatClampNeg := by rw [e_st41]; rfl
                              refine rf_new hx hb (hgw _ w_f2af499d) hK hO hc40 e_st41 (by have q1 := E_st18; have q2 := y_st41; unfold Ext at q1 q2; show (gR st18 101 2 - gR st0 101 2) + 1 ≤ gR st' 101 2 - gR st0 101 2; omega) (by have q1 := E_st18; have q2 := y_st41; unfold Ext at q1 q2; show (gR st18 101 3 - gR st0 101 3) + ((gL st18 7 a0 ((a1 + ((4 : Int32))).toNatClampNeg)).toInt32).toNatClampNeg ≤ gR st' 101 3 - gR st0 101 3; omega) dX9_copied_200 (fun H hO => ?_)
                              have E_st41 : Ext st0 st41 := E_st18.trans x_st41
                              have hf_fa0 := hf_fa0.ext x_st41
                              refine W.widen (k := gR st41 101 2 - gR st0 101 2) (n := gR st41 101 3 - gR st0 101 3) (by have q1 := E_st18; have q2 := y_st41; unfold Ext at q1 q2; omega) (by have q1 := E_st18; have q2 := y_st41; unfold Ext at q1 q2; omega) ?_
                              refine rq_astore (r := gR st18 101 2 + 1) (lv' := [(10, rq (gR st18 101 2 + 1)), (9, rq (gR st18 50 (16 * a0 + ((a1 + ((2 : Int32))).toNatClampNeg)))), (8, rq (gR st18 50 (16 * a0 + a1.toNatClampNeg))), (6, .long (gL st18 7 a0 ((a1 + ((4 : Int32))).toNatClampNeg))), (4, .long (gL st18 7 a0 ((a1 + ((3 : Int32))).toNatClampNeg))), (2, .long (gL st18 7 a0 ((a1 + ((1 : Int32))).toNatClampNeg))), (0, .ref fa0), (1, .int a1)]) hx hb dX9_copied_202 hl (by decide) (by simp [List.filter, rq_cat]) (fun ls hl => ?_)
                              refine lv_iconst (v := 0) hx hb dX9_copied_204 (by decide) ?_
                              refine lv_istore (lv' := [(11, .int ((0 : Int32))), (10, rq (gR st18 101 2 + 1)), (9, rq (gR st18 50 (16 * a0 + ((a1 + ((2 : Int32))).toNatClampNeg)))), (8, rq (gR st18 50 (16 * a0 + a1.toNatClampNeg))), (6, .long (gL st18 7 a0 ((a1 + ((4 : Int32))).toNatClampNeg))), (4, .long (gL st18 7 a0 ((a1 + ((3 : Int32))).toNatClampNeg))), (2, .long (gL st18 7 a0 ((a1 + ((1 : Int32))).toNatClampNeg))), (0, .ref fa0), (1, .int a1)]) hx hb dX9_copied_205 hl (by decide) (by simp [List.filter, rq_cat]) (fun ls hl => ?_)
                              exact c_Mo_copied_L207 ⟨hx, hb, hml, hown, hts⟩ hr hlocks hK r st' st0 18 st41 a0 fa0 hf_fa0 a1 (gL st18 7 a0 ((a1 + ((1 : Int32))).toNatClampNeg)) (gL st18 7 a0 ((a1 + ((3 : Int32))).toNatClampNeg)) (gL st18 7 a0 ((a1 + ((4 : Int32))).toNatClampNeg)) (gR st18 50 (16 * a0 + a1.toNatClampNeg)) (gR st18 50 (16 * a0 + ((a1 + ((2 : Int32))).toNatClampNeg))) (gR st18 101 2 + 1) ((0 : Int32)) _ _ _ h hO (lv_sub hl [7, 8, 6, 5, 4, 3, 2, 1, 0] rfl) (show Ext st0 _ from E_st41)
                            · have h := ite_f c39 h
                              refine lv_iconst (v := 3) hx hb dX9_copied_195 (by decide) ?_
                              obtain ⟨rfl, rfl⟩ := ret2 h; exact rf_iret hx hb hr hlocks hO dX9_copied_196
              · have h := ite_f c23 h
                refine lv_iconst (v := 4) hx hb dX9_copied_81 (by decide) ?_
                obtain ⟨rfl, rfl⟩ := ret2 h; exact rf_iret hx hb hr hlocks hO dX9_copied_82
          · have h := ite_t c16 h
            refine lv_iconst (v := 2) hx hb dX9_copied_54 (by decide) ?_
            obtain ⟨rfl, rfl⟩ := ret2 h; exact rf_iret hx hb hr hlocks hO dX9_copied_55
      · have h := ite_t c12 h
        refine lv_iconst (v := 4) hx hb dX9_copied_30 (by decide) ?_
        obtain ⟨rfl, rfl⟩ := ret2 h; exact rf_iret hx hb hr hlocks hO dX9_copied_31
-- CallWalkerModel rowed
def j_Mo_rowed_L209 (x1 : Nat) (x3 : Int32) (x4 : Int32) (x5 : Int32) (st : CwS) : Option (Int32 × CwS) :=
  bR (j_Mo_wrongRow x1 x3 x5 st) fun r31 st32 =>
  if r31 ≤ ((0 : Int32)) then
    ck (ix (x3 + ((1 : Int32))) 13) <|
    if (lg_cmp (gL st32 7 x1 ((x3 + ((1 : Int32))).toNatClampNeg)) ((0 : Int64))) < ((0 : Int32)) then
      some ((3 : Int32), st32)
    else
      ck (ix x3 13) <|
      ck (isRow st32 (gR st32 50 (16 * x1 + x3.toNatClampNeg))) <|
      if (lg_cmp (gL st32 7 x1 ((x3 + ((1 : Int32))).toNatClampNeg)) ((Int32.ofNat (gR st32 100 ((gR st32 50 (16 * x1 + x3.toNatClampNeg)) - 1))).toInt64)) < ((0 : Int32)) then
        if x4 = ((0 : Int32)) then
          ck (ix x3 13) <|
          ck (isRow st32 (gR st32 50 (16 * x1 + x3.toNatClampNeg))) <|
          ck (ix ((gL st32 7 x1 ((x3 + ((1 : Int32))).toNatClampNeg)).toInt32) (gR st32 100 ((gR st32 50 (16 * x1 + x3.toNatClampNeg)) - 1))) <|
          bV (j_MF_number x1 (gL st32 9 ((gR st32 50 (16 * x1 + x3.toNatClampNeg)) - 1) (((gL st32 7 x1 ((x3 + ((1 : Int32))).toNatClampNeg)).toInt32).toNatClampNeg)) st32) fun st45 =>
          some ((0 : Int32), st45)
        else
          ck (ix x3 13) <|
          if x5 = ((2 : Int32)) then
            ck (ix (x3 + ((2 : Int32))) 13) <|
            ck (isRow st32 (gR st32 50 (16 * x1 + x3.toNatClampNeg))) <|
            ck (ix ((gL st32 7 x1 ((x3 + ((1 : Int32))).toNatClampNeg)).toInt32) (gR st32 100 ((gR st32 50 (16 * x1 + x3.toNatClampNeg)) - 1))) <|
            some ((0 : Int32), sL st32 9 ((gR st32 50 (16 * x1 + x3.toNatClampNeg)) - 1) (((gL st32 7 x1 ((x3 + ((1 : Int32))).toNatClampNeg)).toInt32).toNatClampNeg) (((gL st32 7 x1 ((x3 + ((2 : Int32))).toNatClampNeg)).toInt32).toInt64))
          else
            ck (ix (x3 + ((2 : Int32))) 13) <|
            ck (isRow st32 (gR st32 50 (16 * x1 + x3.toNatClampNeg))) <|
            ck (ix ((gL st32 7 x1 ((x3 + ((1 : Int32))).toNatClampNeg)).toInt32) (gR st32 100 ((gR st32 50 (16 * x1 + x3.toNatClampNeg)) - 1))) <|
            some ((0 : Int32), sL st32 9 ((gR st32 50 (16 * x1 + x3.toNatClampNeg)) - 1) (((gL st32 7 x1 ((x3 + ((1 : Int32))).toNatClampNeg)).toInt32).toNatClampNeg) (gL st32 7 x1 ((x3 + ((2 : Int32))).toNatClampNeg)))
      else
        some ((3 : Int32), st32)
  else
    some (r31, st32)
def j_Mo_rowed_L175 (x1 : Nat) (x3 : Int32) (x4 : Int32) (st : CwS) : Option (Int32 × CwS) :=
  bR (j_MF_isNumber x1 (x3 + ((1 : Int32))) st) fun r26 st27 =>
  if r26 = ((0 : Int32)) then
    some ((4 : Int32), st27)
  else
    if x4 = ((0 : Int32)) then
      j_Mo_rowed_L209 x1 x3 x4 ((1 : Int32)) st27
    else
      bR (j_MF_isNumber x1 (x3 + ((2 : Int32))) st27) fun r55 st56 =>
      if r55 = ((0 : Int32)) then
        some ((4 : Int32), st56)
      else
        j_Mo_rowed_L209 x1 x3 x4 ((1 : Int32)) st56
def j_Mo_rowed_L108 (x1 : Nat) (x3 : Int32) (st : CwS) : Option (Int32 × CwS) :=
  ck (ix x3 13) <|
  if (gI st 21 x1 x3.toNatClampNeg) = ((3 : Int32)) then
    some ((2 : Int32), st)
  else
    some ((4 : Int32), st)
def j_Mo_rowed_L46 (x4 : Int64) (st : CwS) : Option (Int32 × CwS) :=
  if ((0 : Int32)) ≤ (lg_cmp x4 ((0 : Int64))) then
    some ((6 : Int32), st)
  else
    some ((5 : Int32), st)
def j_Mo_rowed_L12 (x1 : Nat) (x2 : Int32) (x3 : Int32) (st : CwS) : Option (Int32 × CwS) :=
  bR (j_MF_isNumber x1 x3 st) fun r2 st3 =>
  if r2 = ((0 : Int32)) then
    some ((4 : Int32), st3)
  else
    ck (ix x3 13) <|
    if (lg_cmp (gL st3 7 x1 x3.toNatClampNeg) ((0 : Int64))) < ((0 : Int32)) then
      j_Mo_rowed_L46 (gL st3 7 x1 x3.toNatClampNeg) st3
    else
      if (lg_cmp (gL st3 7 x1 x3.toNatClampNeg) ((16 : Int64))) ≤ ((0 : Int32)) then
        if x2 = ((15 : Int32)) then
          ck (rAl ((gL st3 7 x1 x3.toNatClampNeg).toInt32)) <|
          bS (rNew st3 (((gL st3 7 x1 x3.toNatClampNeg).toInt32).toNatClampNeg)) fun st17 =>
          bV (j_MF_push x1 ((1 : Int32)) ((0 : Int64)) (gR st3 101 2 + 1) st17) fun st19 =>
          some ((0 : Int32), st19)
        else
          ck (rAl ((gL st3 7 x1 x3.toNatClampNeg).toInt32)) <|
          bS (rNew st3 (((gL st3 7 x1 x3.toNatClampNeg).toInt32).toNatClampNeg)) fun st12 =>
          bV (j_MF_push x1 ((2 : Int32)) ((0 : Int64)) (gR st3 101 2 + 1) st12) fun st14 =>
          some ((0 : Int32), st14)
      else
        j_Mo_rowed_L46 (gL st3 7 x1 x3.toNatClampNeg) st3
def j_Mo_rowed (a1 : Nat) (a2 : Int32) (a3 : Int32) (st0 : CwS) : Option (Int32 × CwS) :=
  if a2 = ((15 : Int32)) then
    j_Mo_rowed_L12 a1 a2 a3 st0
  else
    if a2 = ((16 : Int32)) then
      j_Mo_rowed_L12 a1 a2 a3 st0
    else
      if a2 = ((21 : Int32)) then
        ck (ix a3 13) <|
        if (gI st0 21 a1 a3.toNatClampNeg) = ((3 : Int32)) then
          j_Mo_rowed_L108 a1 a3 st0
        else
          ck (ix a3 13) <|
          if (gI st0 21 a1 a3.toNatClampNeg) = ((0 : Int32)) then
            j_Mo_rowed_L108 a1 a3 st0
          else
            ck (ix a3 13) <|
            ck (isRow st0 (gR st0 50 (16 * a1 + a3.toNatClampNeg))) <|
            bV (j_MF_number a1 ((Int32.ofNat (gR st0 100 ((gR st0 50 (16 * a1 + a3.toNatClampNeg)) - 1))).toInt64) st0) fun st86 =>
            some ((0 : Int32), st86)
      else
        if a2 = ((23 : Int32)) then
          bR (j_Mo_copied a1 a3 st0) fun r74 st75 =>
          some (r74, st75)
        else
          if a2 < ((19 : Int32)) then
            if a2 = ((17 : Int32)) then
              j_Mo_rowed_L175 a1 a3 ((0 : Int32)) st0
            else
              if a2 = ((19 : Int32)) then
                j_Mo_rowed_L175 a1 a3 ((0 : Int32)) st0
              else
                bR (j_MF_isNumber a1 (a3 + ((1 : Int32))) st0) fun r60 st61 =>
                if r60 = ((0 : Int32)) then
                  some ((4 : Int32), st61)
                else
                  j_Mo_rowed_L209 a1 a3 ((0 : Int32)) ((2 : Int32)) st61
          else
            if a2 = ((17 : Int32)) then
              j_Mo_rowed_L175 a1 a3 ((1 : Int32)) st0
            else
              if a2 = ((19 : Int32)) then
                j_Mo_rowed_L175 a1 a3 ((1 : Int32)) st0
              else
                bR (j_MF_isNumber a1 (a3 + ((1 : Int32))) st0) fun r66 st67 =>
                if r66 = ((0 : Int32)) then
                  some ((4 : Int32), st67)
                else
                  bR (j_MF_isNumber a1 (a3 + ((2 : Int32))) st67) fun r70 st71 =>
                  if r70 = ((0 : Int32)) then
                    some ((4 : Int32), st71)
                  else
                    j_Mo_rowed_L209 a1 a3 ((1 : Int32)) ((2 : Int32)) st71
set_option maxHeartbeats 4000000 in
theorem x_Mo_rowed_L209 {x1 : Nat} {x3 : Int32} {x4 : Int32} {x5 : Int32} {st : CwS} {r : Int32} {st' : CwS} (h : j_Mo_rowed_L209 x1 x3 x4 x5 st = some (r, st')) : Ext st st' := by
  unfold j_Mo_rowed_L209 at h
  obtain ⟨r31, st32, h33, h⟩ := bR_some h
  refine Ext.trans (a := st) (b := st32) (by have t := x_Mo_wrongRow h33; exact t) ?_
  by_cases c34 : r31 ≤ ((0 : Int32))
  · have h := ite_t c34 h
    obtain ⟨-, h⟩ := ck_some h
    by_cases c36 : (lg_cmp (gL st32 7 x1 ((x3 + ((1 : Int32))).toNatClampNeg)) ((0 : Int64))) < ((0 : Int32))
    · have h := ite_t c36 h
      obtain ⟨-, rfl⟩ := ret2 h; exact (show Ext st32 _ from Ext.refl st32)
    · have h := ite_f c36 h
      obtain ⟨-, h⟩ := ck_some h
      obtain ⟨-, h⟩ := ck_some h
      by_cases c39 : (lg_cmp (gL st32 7 x1 ((x3 + ((1 : Int32))).toNatClampNeg)) ((Int32.ofNat (gR st32 100 ((gR st32 50 (16 * x1 + x3.toNatClampNeg)) - 1))).toInt64)) < ((0 : Int32))
      · have h := ite_t c39 h
        by_cases c40 : x4 = ((0 : Int32))
        · have h := ite_t c40 h
          obtain ⟨-, h⟩ := ck_some h
          obtain ⟨-, h⟩ := ck_some h
          obtain ⟨-, h⟩ := ck_some h
          obtain ⟨st45, h46, h⟩ := bV_some h
          refine Ext.trans (a := st32) (b := st45) (by have t := x_MF_number h46; exact t) ?_
          obtain ⟨-, rfl⟩ := ret2 h; exact (show Ext st45 _ from Ext.refl st45)
        · have h := ite_f c40 h
          obtain ⟨-, h⟩ := ck_some h
          by_cases c48 : x5 = ((2 : Int32))
          · have h := ite_t c48 h
            obtain ⟨-, h⟩ := ck_some h
            obtain ⟨-, h⟩ := ck_some h
            obtain ⟨-, h⟩ := ck_some h
            obtain ⟨-, rfl⟩ := ret2 h; exact (show Ext st32 _ from Ext.refl st32)
          · have h := ite_f c48 h
            obtain ⟨-, h⟩ := ck_some h
            obtain ⟨-, h⟩ := ck_some h
            obtain ⟨-, h⟩ := ck_some h
            obtain ⟨-, rfl⟩ := ret2 h; exact (show Ext st32 _ from Ext.refl st32)
      · have h := ite_f c39 h
        obtain ⟨-, rfl⟩ := ret2 h; exact (show Ext st32 _ from Ext.refl st32)
  · have h := ite_f c34 h
    obtain ⟨-, rfl⟩ := ret2 h; exact (show Ext st32 _ from Ext.refl st32)
set_option maxHeartbeats 4000000 in
theorem x_Mo_rowed_L175 {x1 : Nat} {x3 : Int32} {x4 : Int32} {st : CwS} {r : Int32} {st' : CwS} (h : j_Mo_rowed_L175 x1 x3 x4 st = some (r, st')) : Ext st st' := by
  unfold j_Mo_rowed_L175 at h
  obtain ⟨r26, st27, h28, h⟩ := bR_some h
  refine Ext.trans (a := st) (b := st27) (by have t := x_MF_isNumber h28; exact t) ?_
  by_cases c29 : r26 = ((0 : Int32))
  · have h := ite_t c29 h
    obtain ⟨-, rfl⟩ := ret2 h; exact (show Ext st27 _ from Ext.refl st27)
  · have h := ite_f c29 h
    by_cases c30 : x4 = ((0 : Int32))
    · have h := ite_t c30 h
      have t := x_Mo_rowed_L209 h; exact (show Ext st27 _ from t)
    · have h := ite_f c30 h
      obtain ⟨r55, st56, h57, h⟩ := bR_some h
      refine Ext.trans (a := st27) (b := st56) (by have t := x_MF_isNumber h57; exact t) ?_
      by_cases c58 : r55 = ((0 : Int32))
      · have h := ite_t c58 h
        obtain ⟨-, rfl⟩ := ret2 h; exact (show Ext st56 _ from Ext.refl st56)
      · have h := ite_f c58 h
        have t := x_Mo_rowed_L209 h; exact (show Ext st56 _ from t)
set_option maxHeartbeats 4000000 in
theorem x_Mo_rowed_L108 {x1 : Nat} {x3 : Int32} {st : CwS} {r : Int32} {st' : CwS} (h : j_Mo_rowed_L108 x1 x3 st = some (r, st')) : Ext st st' := by
  unfold j_Mo_rowed_L108 at h
  obtain ⟨-, h⟩ := ck_some h
  by_cases c80 : (gI st 21 x1 x3.toNatClampNeg) = ((3 : Int32))
  · have h := ite_t c80 h
    obtain ⟨-, rfl⟩ := ret2 h; exact (show Ext st _ from Ext.refl st)
  · have h := ite_f c80 h
    obtain ⟨-, rfl⟩ := ret2 h; exact (show Ext st _ from Ext.refl st)
set_option maxHeartbeats 4000000 in
theorem x_Mo_rowed_L46 {x4 : Int64} {st : CwS} {r : Int32} {st' : CwS} (h : j_Mo_rowed_L46 x4 st = some (r, st')) : Ext st st' := by
  unfold j_Mo_rowed_L46 at h
  by_cases c8 : ((0 : Int32)) ≤ (lg_cmp x4 ((0 : Int64)))
  · have h := ite_t c8 h
    obtain ⟨-, rfl⟩ := ret2 h; exact (show Ext st _ from Ext.refl st)
  · have h := ite_f c8 h
    obtain ⟨-, rfl⟩ := ret2 h; exact (show Ext st _ from Ext.refl st)
set_option maxHeartbeats 4000000 in
theorem x_Mo_rowed_L12 {x1 : Nat} {x2 : Int32} {x3 : Int32} {st : CwS} {r : Int32} {st' : CwS} (h : j_Mo_rowed_L12 x1 x2 x3 st = some (r, st')) : Ext st st' := by
  unfold j_Mo_rowed_L12 at h
  obtain ⟨r2, st3, h4, h⟩ := bR_some h
  refine Ext.trans (a := st) (b := st3) (by have t := x_MF_isNumber h4; exact t) ?_
  by_cases c5 : r2 = ((0 : Int32))
  · have h := ite_t c5 h
    obtain ⟨-, rfl⟩ := ret2 h; exact (show Ext st3 _ from Ext.refl st3)
  · have h := ite_f c5 h
    obtain ⟨-, h⟩ := ck_some h
    by_cases c7 : (lg_cmp (gL st3 7 x1 x3.toNatClampNeg) ((0 : Int64))) < ((0 : Int32))
    · have h := ite_t c7 h
      have t := x_Mo_rowed_L46 h; exact (show Ext st3 _ from t)
    · have h := ite_f c7 h
      by_cases c9 : (lg_cmp (gL st3 7 x1 x3.toNatClampNeg) ((16 : Int64))) ≤ ((0 : Int32))
      · have h := ite_t c9 h
        by_cases c10 : x2 = ((15 : Int32))
        · have h := ite_t c10 h
          obtain ⟨-, h⟩ := ck_some h
          obtain ⟨st17, e_st17, h⟩ := bS_some h
          refine Ext.trans (b := st17) (by rw [e_st17]; exact Ext.new _ _) ?_
          obtain ⟨st19, h20, h⟩ := bV_some h
          refine Ext.trans (a := st17) (b := st19) (by have t := x_MF_push h20; exact t) ?_
          obtain ⟨-, rfl⟩ := ret2 h; exact (show Ext st19 _ from Ext.refl st19)
        · have h := ite_f c10 h
          obtain ⟨-, h⟩ := ck_some h
          obtain ⟨st12, e_st12, h⟩ := bS_some h
          refine Ext.trans (b := st12) (by rw [e_st12]; exact Ext.new _ _) ?_
          obtain ⟨st14, h15, h⟩ := bV_some h
          refine Ext.trans (a := st12) (b := st14) (by have t := x_MF_push h15; exact t) ?_
          obtain ⟨-, rfl⟩ := ret2 h; exact (show Ext st14 _ from Ext.refl st14)
      · have h := ite_f c9 h
        have t := x_Mo_rowed_L46 h; exact (show Ext st3 _ from t)
set_option maxHeartbeats 4000000 in
theorem x_Mo_rowed {a1 : Nat} {a2 : Int32} {a3 : Int32} {st0 : CwS} {r : Int32} {st' : CwS} (h : j_Mo_rowed a1 a2 a3 st0 = some (r, st')) : Ext st0 st' := by
  unfold j_Mo_rowed at h
  by_cases c1 : a2 = ((15 : Int32))
  · have h := ite_t c1 h
    have t := x_Mo_rowed_L12 h; exact (show Ext st0 _ from t)
  · have h := ite_f c1 h
    by_cases c21 : a2 = ((16 : Int32))
    · have h := ite_t c21 h
      have t := x_Mo_rowed_L12 h; exact (show Ext st0 _ from t)
    · have h := ite_f c21 h
      by_cases c22 : a2 = ((21 : Int32))
      · have h := ite_t c22 h
        obtain ⟨-, h⟩ := ck_some h
        by_cases c78 : (gI st0 21 a1 a3.toNatClampNeg) = ((3 : Int32))
        · have h := ite_t c78 h
          have t := x_Mo_rowed_L108 h; exact (show Ext st0 _ from t)
        · have h := ite_f c78 h
          obtain ⟨-, h⟩ := ck_some h
          by_cases c82 : (gI st0 21 a1 a3.toNatClampNeg) = ((0 : Int32))
          · have h := ite_t c82 h
            have t := x_Mo_rowed_L108 h; exact (show Ext st0 _ from t)
          · have h := ite_f c82 h
            obtain ⟨-, h⟩ := ck_some h
            obtain ⟨-, h⟩ := ck_some h
            obtain ⟨st86, h87, h⟩ := bV_some h
            refine Ext.trans (a := st0) (b := st86) (by have t := x_MF_number h87; exact t) ?_
            obtain ⟨-, rfl⟩ := ret2 h; exact (show Ext st86 _ from Ext.refl st86)
      · have h := ite_f c22 h
        by_cases c23 : a2 = ((23 : Int32))
        · have h := ite_t c23 h
          obtain ⟨r74, st75, h76, h⟩ := bR_some h
          refine Ext.trans (a := st0) (b := st75) (by have t := x_Mo_copied h76; exact t) ?_
          obtain ⟨-, rfl⟩ := ret2 h; exact (show Ext st75 _ from Ext.refl st75)
        · have h := ite_f c23 h
          by_cases c24 : a2 < ((19 : Int32))
          · have h := ite_t c24 h
            by_cases c25 : a2 = ((17 : Int32))
            · have h := ite_t c25 h
              have t := x_Mo_rowed_L175 h; exact (show Ext st0 _ from t)
            · have h := ite_f c25 h
              by_cases c59 : a2 = ((19 : Int32))
              · have h := ite_t c59 h
                have t := x_Mo_rowed_L175 h; exact (show Ext st0 _ from t)
              · have h := ite_f c59 h
                obtain ⟨r60, st61, h62, h⟩ := bR_some h
                refine Ext.trans (a := st0) (b := st61) (by have t := x_MF_isNumber h62; exact t) ?_
                by_cases c63 : r60 = ((0 : Int32))
                · have h := ite_t c63 h
                  obtain ⟨-, rfl⟩ := ret2 h; exact (show Ext st61 _ from Ext.refl st61)
                · have h := ite_f c63 h
                  have t := x_Mo_rowed_L209 h; exact (show Ext st61 _ from t)
          · have h := ite_f c24 h
            by_cases c64 : a2 = ((17 : Int32))
            · have h := ite_t c64 h
              have t := x_Mo_rowed_L175 h; exact (show Ext st0 _ from t)
            · have h := ite_f c64 h
              by_cases c65 : a2 = ((19 : Int32))
              · have h := ite_t c65 h
                have t := x_Mo_rowed_L175 h; exact (show Ext st0 _ from t)
              · have h := ite_f c65 h
                obtain ⟨r66, st67, h68, h⟩ := bR_some h
                refine Ext.trans (a := st0) (b := st67) (by have t := x_MF_isNumber h68; exact t) ?_
                by_cases c69 : r66 = ((0 : Int32))
                · have h := ite_t c69 h
                  obtain ⟨-, rfl⟩ := ret2 h; exact (show Ext st67 _ from Ext.refl st67)
                · have h := ite_f c69 h
                  obtain ⟨r70, st71, h72, h⟩ := bR_some h
                  refine Ext.trans (a := st67) (b := st71) (by have t := x_MF_isNumber h72; exact t) ?_
                  by_cases c73 : r70 = ((0 : Int32))
                  · have h := ite_t c73 h
                    obtain ⟨-, rfl⟩ := ret2 h; exact (show Ext st71 _ from Ext.refl st71)
                  · have h := ite_f c73 h
                    have t := x_Mo_rowed_L209 h; exact (show Ext st71 _ from t)
set_option maxHeartbeats 4000000 in
set_option maxRecDepth 100000 in
theorem c_Mo_rowed_L209 {l : Launch} {D : va_G} {A : Nat → Prop} {b0 : Nat} {cA : Nat → ClassId} {p : Program} {e : Env} {s : State} {m : MethodId} {args : Array Value} {below : List Frame} {meth : Method} {c : Code} (S : CallFix p m c cX9_rowed 9 s args (wv yX9_rowed cX9_rowed 9 (some .int)) RX9) (hr : meth.sig.returnType = some .int) (hlocks : meth.locks = false) (hK : rfK D cA s) (r : Int32) (st' : CwS) (st0 : CwS) (st : CwS) (x1 : Nat) (fx1 : Nat) (hf_fx1 : rfF st x1 fx1) (x3 : Int32) (x4 : Int32) (x5 : Int32) (H : Heap) (locs : List Loc) (ls : Array Slot) (h : j_Mo_rowed_L209 x1 x3 x4 x5 st = some (r, st')) (hO : rfO D A b0 cA s st H locs) (hl : lv_has ls 9 [(1, .ref fx1), (3, .int x3), (4, .int x4), (5, .int x5)]) (E_st : Ext st0 st) : W p l e ({ frames := 2, cells := gR st' 101 2 - gR st0 101 2, slots := gR st' 101 3 - gR st0 101 3, locals := 52 }) s m args below meth c H locs (gR st 101 2 - gR st0 101 2) (gR st 101 3 - gR st0 101 3) (MQ below (rfQi D A b0 cA r st') args s (gR st' 101 2 - gR st0 101 2) (gR st' 101 3 - gR st0 101 3) A) (F0 m 209 ls []) := by
  obtain ⟨hx, hb, hml, hown, hts⟩ := S
  have hgw := fun (w : Cond) (h : w ∈ gwW) => hts w (List.mem_cons_of_mem _ h)
  have k97 := hgw _ w_bb1741c6
  have k100 := hgw _ w_36d04f4c
  have k103 := hgw _ w_05e7d7f0
  have k147 := hgw _ w_8ea2e188
  unfold j_Mo_rowed_L209 at h
  refine lv_aload_n hx hb dX9_rowed_209 rfl (lv_at hl 0 rfl) ?_
  refine lv_iload_n hx hb dX9_rowed_210 rfl (lv_at hl 1 rfl) ?_
  refine lv_iload hx hb dX9_rowed_211 (lv_at hl 3 rfl) ?_
  have y_st32 : Ext st st' := by
    obtain ⟨r31, st32, h33, h⟩ := bR_some h
    refine Ext.trans (a := st) (b := st32) (by have t := x_Mo_wrongRow h33; exact t) ?_
    by_cases c34 : r31 ≤ ((0 : Int32))
    · have h := ite_t c34 h
      obtain ⟨-, h⟩ := ck_some h
      by_cases c36 : (lg_cmp (gL st32 7 x1 ((x3 + ((1 : Int32))).toNatClampNeg)) ((0 : Int64))) < ((0 : Int32))
      · have h := ite_t c36 h
        obtain ⟨-, rfl⟩ := ret2 h; exact (show Ext st32 _ from Ext.refl st32)
      · have h := ite_f c36 h
        obtain ⟨-, h⟩ := ck_some h
        obtain ⟨-, h⟩ := ck_some h
        by_cases c39 : (lg_cmp (gL st32 7 x1 ((x3 + ((1 : Int32))).toNatClampNeg)) ((Int32.ofNat (gR st32 100 ((gR st32 50 (16 * x1 + x3.toNatClampNeg)) - 1))).toInt64)) < ((0 : Int32))
        · have h := ite_t c39 h
          by_cases c40 : x4 = ((0 : Int32))
          · have h := ite_t c40 h
            obtain ⟨-, h⟩ := ck_some h
            obtain ⟨-, h⟩ := ck_some h
            obtain ⟨-, h⟩ := ck_some h
            obtain ⟨st45, h46, h⟩ := bV_some h
            refine Ext.trans (a := st32) (b := st45) (by have t := x_MF_number h46; exact t) ?_
            obtain ⟨-, rfl⟩ := ret2 h; exact (show Ext st45 _ from Ext.refl st45)
          · have h := ite_f c40 h
            obtain ⟨-, h⟩ := ck_some h
            by_cases c48 : x5 = ((2 : Int32))
            · have h := ite_t c48 h
              obtain ⟨-, h⟩ := ck_some h
              obtain ⟨-, h⟩ := ck_some h
              obtain ⟨-, h⟩ := ck_some h
              obtain ⟨-, rfl⟩ := ret2 h; exact (show Ext st32 _ from Ext.refl st32)
            · have h := ite_f c48 h
              obtain ⟨-, h⟩ := ck_some h
              obtain ⟨-, h⟩ := ck_some h
              obtain ⟨-, h⟩ := ck_some h
              obtain ⟨-, rfl⟩ := ret2 h; exact (show Ext st32 _ from Ext.refl st32)
        · have h := ite_f c39 h
          obtain ⟨-, rfl⟩ := ret2 h; exact (show Ext st32 _ from Ext.refl st32)
    · have h := ite_f c34 h
      obtain ⟨-, rfl⟩ := ret2 h; exact (show Ext st32 _ from Ext.refl st32)
  obtain ⟨r31, st32, h33, h⟩ := bR_some h
  have x_st32 : Ext st st32 := by have t := x_Mo_wrongRow h33; exact t
  refine rf_calli (va_runS (As := [.ref fx1, .int x3, .int x5]) (rest := []) ⟨hx, hb, hml, hown, hts⟩ (c_Mo_wrongRow l D A b0 cA st x1 fx1 hf_fx1 x3 x5 r31 st32 h33) (va_cwS 3 hts (gw_S w_12d75d55 w_561f6833 w_18f41a94 w_559fda29) rfl rfl rfl (by decide +kernel) ⟨by show 0 + 1 ≤ 2; omega, by show 8 + (3 + 11) + (0) ≤ 52; omega⟩) (rf_preS hK hO) rfl rfl hl.1 rfl (lv_room (Nat.le_of_ble_eq_true rfl)) dX9_rowed_213 ⟨by have q1 := E_st; have q2 := y_st32; unfold Ext at q1 q2; show (gR st 101 2 - gR st0 101 2) + 0 ≤ gR st' 101 2 - gR st0 101 2; omega, by have q1 := E_st; have q2 := y_st32; unfold Ext at q1 q2; show (gR st 101 3 - gR st0 101 3) + 0 ≤ gR st' 101 3 - gR st0 101 3; omega⟩) hO (fun H locs hO => ?_)
  have hf_fx1 : rfF st32 x1 fx1 := rfF.ext (show rfF st x1 fx1 from hf_fx1) x_st32
  have E_st32 : Ext st0 st32 := E_st.trans x_st32
  refine W.widen (k := gR st32 101 2 - gR st0 101 2) (n := gR st32 101 3 - gR st0 101 3) (by have q1 := E_st; have q2 := x_st32; unfold Ext at q1 q2; omega) (by have q1 := E_st; have q2 := x_st32; unfold Ext at q1 q2; omega) ?_
  refine lv_istore (lv' := [(6, .int r31), (1, .ref fx1), (3, .int x3), (4, .int x4), (5, .int x5)]) hx hb dX9_rowed_216 hl (by decide) rfl (fun ls hl => ?_)
  refine lv_iload hx hb dX9_rowed_218 (lv_at hl 0 rfl) ?_
  refine lv_if_le (tgt := 226) hx hb dX9_rowed_220 (by decide) (fun c34 => ?_) (fun c34 => ?_)
  · have h := ite_t c34 h
    refine lv_aload_n hx hb dX9_rowed_226 rfl (lv_at hl 1 rfl) ?_
    refine gf_MF_n hx hb hgw iwMF hown hK hO hf_fx1 k97 dX9_rowed_227 ?_
    refine lv_iload_n hx hb dX9_rowed_230 rfl (lv_at hl 2 rfl) ?_
    refine lv_iconst (v := 1) hx hb dX9_rowed_231 (by decide) ?_
    refine lv_iadd hx hb dX9_rowed_232 ?_
    obtain ⟨hc35, h⟩ := ck_some h
    refine al_MN hx hb hK hO hf_fx1 hc35 dX9_rowed_233 ?_
    refine lv_lstore (lv' := [(7, .long (gL st32 7 x1 ((x3 + ((1 : Int32))).toNatClampNeg))), (6, .int r31), (1, .ref fx1), (3, .int x3), (4, .int x4), (5, .int x5)]) hx hb dX9_rowed_234 hl (by decide) rfl (fun ls hl => ?_)
    refine lv_lload hx hb dX9_rowed_236 (lv_at hl 0 rfl) ?_
    refine lv_lconst (v := 0) hx hb dX9_rowed_238 (by decide) ?_
    refine W.lcmp hx hb dX9_rowed_239 ?_
    refine lv_if_lt (tgt := 257) hx hb dX9_rowed_240 (by decide) (fun c36 => ?_) (fun c36 => ?_)
    · have h := ite_t c36 h
      refine lv_iconst (v := 3) hx hb dX9_rowed_257 (by decide) ?_
      obtain ⟨rfl, rfl⟩ := ret2 h; exact rf_iret hx hb hr hlocks hO dX9_rowed_258
    · have h := ite_f c36 h
      refine lv_lload hx hb dX9_rowed_243 (lv_at hl 0 rfl) ?_
      refine lv_aload_n hx hb dX9_rowed_245 rfl (lv_at hl 2 rfl) ?_
      refine gf_MF_rows hx hb hgw iwMF hown hK hO hf_fx1 k103 dX9_rowed_246 ?_
      refine lv_iload_n hx hb dX9_rowed_249 rfl (lv_at hl 3 rfl) ?_
      obtain ⟨hc37, h⟩ := ck_some h
      refine al_MRows hx hb hK hO hf_fx1 hc37 dX9_rowed_250 ?_
      obtain ⟨hc38, h⟩ := ck_some h
      refine an_Row hx hb hK hO hc38 dX9_rowed_251 ?_
      refine lv_i2l hx hb dX9_rowed_252 rfl ?_
      refine W.lcmp hx hb dX9_rowed_253 ?_
      refine lv_if_lt (tgt := 259) hx hb dX9_rowed_254 (by decide) (fun c39 => ?_) (fun c39 => ?_)
      · have h := ite_t c39 h
        refine lv_iload hx hb dX9_rowed_259 (lv_at hl 4 rfl) ?_
        refine lv_if_eq (tgt := 304) hx hb dX9_rowed_261 (by decide) (fun c40 => ?_) (fun c40 => ?_)
        · have h := ite_t c40 h
          refine lv_aload_n hx hb dX9_rowed_304 rfl (lv_at hl 2 rfl) ?_
          refine lv_aload_n hx hb dX9_rowed_305 rfl (lv_at hl 2 rfl) ?_
          refine gf_MF_rows hx hb hgw iwMF hown hK hO hf_fx1 k103 dX9_rowed_306 ?_
          refine lv_iload_n hx hb dX9_rowed_309 rfl (lv_at hl 3 rfl) ?_
          obtain ⟨hc41, h⟩ := ck_some h
          refine al_MRows hx hb hK hO hf_fx1 hc41 dX9_rowed_310 ?_
          refine lv_lload hx hb dX9_rowed_311 (lv_at hl 0 rfl) ?_
          refine lv_l2i hx hb dX9_rowed_313 rfl ?_
          obtain ⟨hc42, h⟩ := ck_some h
          obtain ⟨hc43, h⟩ := ck_some h
          refine al_Row hx hb hK hO hc42 hc43 dX9_rowed_314 ?_
          have y_st45 : Ext st32 st' := by
            obtain ⟨st45, h46, h⟩ := bV_some h
            refine Ext.trans (a := st32) (b := st45) (by have t := x_MF_number h46; exact t) ?_
            obtain ⟨-, rfl⟩ := ret2 h; exact (show Ext st45 _ from Ext.refl st45)
          obtain ⟨st45, h46, h⟩ := bV_some h
          have x_st45 : Ext st32 st45 := by have t := x_MF_number h46; exact t
          refine rf_callv (va_runV (As := [.long (gL st32 9 ((gR st32 50 (16 * x1 + x3.toNatClampNeg)) - 1) (((gL st32 7 x1 ((x3 + ((1 : Int32))).toNatClampNeg)).toInt32).toNatClampNeg))]) (rest := []) ⟨hx, hb, hml, hown, hts⟩ (c_MF_number l D A b0 cA st32 x1 fx1 hf_fx1 (gL st32 9 ((gR st32 50 (16 * x1 + x3.toNatClampNeg)) - 1) (((gL st32 7 x1 ((x3 + ((1 : Int32))).toNatClampNeg)).toInt32).toNatClampNeg)) st45 h46) (cwV 1 hts (gw_V w_a50611e6 w_8ebaf0f1 w_dd21e4d3 w_18ea82d2 w_54e1986d) rfl rfl rfl (by decide +kernel) ⟨by show 1 + 1 ≤ 2; omega, by show 8 + (3 + 11) + (24) ≤ 52; omega⟩) (rf_preF hf_fx1 hK hO) rfl rfl hl.1 rfl (lv_room (Nat.le_of_ble_eq_true rfl)) dX9_rowed_315 ⟨by have q1 := E_st32; have q2 := y_st45; unfold Ext at q1 q2; show (gR st32 101 2 - gR st0 101 2) + 0 ≤ gR st' 101 2 - gR st0 101 2; omega, by have q1 := E_st32; have q2 := y_st45; unfold Ext at q1 q2; show (gR st32 101 3 - gR st0 101 3) + 0 ≤ gR st' 101 3 - gR st0 101 3; omega⟩) hO (fun H locs hO => ?_)
          have hf_fx1 : rfF st45 x1 fx1 := rfF.ext (show rfF st32 x1 fx1 from hf_fx1) x_st45
          have E_st45 : Ext st0 st45 := E_st32.trans x_st45
          refine W.widen (k := gR st45 101 2 - gR st0 101 2) (n := gR st45 101 3 - gR st0 101 3) (by have q1 := E_st32; have q2 := x_st45; unfold Ext at q1 q2; omega) (by have q1 := E_st32; have q2 := x_st45; unfold Ext at q1 q2; omega) ?_
          refine lv_iconst (v := 0) hx hb dX9_rowed_318 (by decide) ?_
          obtain ⟨rfl, rfl⟩ := ret2 h; exact rf_iret hx hb hr hlocks hO dX9_rowed_319
        · have h := ite_f c40 h
          refine lv_aload_n hx hb dX9_rowed_264 rfl (lv_at hl 2 rfl) ?_
          refine gf_MF_rows hx hb hgw iwMF hown hK hO hf_fx1 k103 dX9_rowed_265 ?_
          refine lv_iload_n hx hb dX9_rowed_268 rfl (lv_at hl 3 rfl) ?_
          obtain ⟨hc47, h⟩ := ck_some h
          refine al_MRows hx hb hK hO hf_fx1 hc47 dX9_rowed_269 ?_
          refine lv_lload hx hb dX9_rowed_270 (lv_at hl 0 rfl) ?_
          refine lv_l2i hx hb dX9_rowed_272 rfl ?_
          refine lv_iload hx hb dX9_rowed_273 (lv_at hl 5 rfl) ?_
          refine lv_iconst (v := 2) hx hb dX9_rowed_275 (by decide) ?_
          refine lv_icmp_ne (tgt := 292) hx hb dX9_rowed_276 (by decide) (fun c48 => ?_) (fun c48 => ?_)
          · have h := ite_f c48 h
            refine lv_aload_n hx hb dX9_rowed_292 rfl (lv_at hl 2 rfl) ?_
            refine gf_MF_n hx hb hgw iwMF hown hK hO hf_fx1 k97 dX9_rowed_293 ?_
            refine lv_iload_n hx hb dX9_rowed_296 rfl (lv_at hl 3 rfl) ?_
            refine lv_iconst (v := 2) hx hb dX9_rowed_297 (by decide) ?_
            refine lv_iadd hx hb dX9_rowed_298 ?_
            obtain ⟨hc49, h⟩ := ck_some h
            refine al_MN hx hb hK hO hf_fx1 hc49 dX9_rowed_299 ?_
            obtain ⟨hc50, h⟩ := ck_some h
            obtain ⟨hc51, h⟩ := ck_some h
            refine as_Row hx hb hK hO hc50 hc51 dX9_rowed_300 (fun H locs hO => ?_)
            refine lv_goto (tgt := 318) hx hb dX9_rowed_301 (by decide) ?_
            refine lv_iconst (v := 0) hx hb dX9_rowed_318 (by decide) ?_
            obtain ⟨rfl, rfl⟩ := ret2 h; exact rf_iret hx hb hr hlocks hO dX9_rowed_319
          · have h := ite_t c48 h
            refine lv_aload_n hx hb dX9_rowed_279 rfl (lv_at hl 2 rfl) ?_
            refine gf_MF_n hx hb hgw iwMF hown hK hO hf_fx1 k97 dX9_rowed_280 ?_
            refine lv_iload_n hx hb dX9_rowed_283 rfl (lv_at hl 3 rfl) ?_
            refine lv_iconst (v := 2) hx hb dX9_rowed_284 (by decide) ?_
            refine lv_iadd hx hb dX9_rowed_285 ?_
            obtain ⟨hc52, h⟩ := ck_some h
            refine al_MN hx hb hK hO hf_fx1 hc52 dX9_rowed_286 ?_
            refine lv_l2i hx hb dX9_rowed_287 rfl ?_
            refine lv_i2l hx hb dX9_rowed_288 rfl ?_
            refine lv_goto (tgt := 300) hx hb dX9_rowed_289 (by decide) ?_
            obtain ⟨hc53, h⟩ := ck_some h
            obtain ⟨hc54, h⟩ := ck_some h
            refine as_Row hx hb hK hO hc53 hc54 dX9_rowed_300 (fun H locs hO => ?_)
            refine lv_goto (tgt := 318) hx hb dX9_rowed_301 (by decide) ?_
            refine lv_iconst (v := 0) hx hb dX9_rowed_318 (by decide) ?_
            obtain ⟨rfl, rfl⟩ := ret2 h; exact rf_iret hx hb hr hlocks hO dX9_rowed_319
      · have h := ite_f c39 h
        refine lv_iconst (v := 3) hx hb dX9_rowed_257 (by decide) ?_
        obtain ⟨rfl, rfl⟩ := ret2 h; exact rf_iret hx hb hr hlocks hO dX9_rowed_258
  · have h := ite_f c34 h
    refine lv_iload hx hb dX9_rowed_223 (lv_at hl 0 rfl) ?_
    obtain ⟨rfl, rfl⟩ := ret2 h; exact rf_iret hx hb hr hlocks hO dX9_rowed_225
set_option maxHeartbeats 4000000 in
set_option maxRecDepth 100000 in
theorem c_Mo_rowed_L175 {l : Launch} {D : va_G} {A : Nat → Prop} {b0 : Nat} {cA : Nat → ClassId} {p : Program} {e : Env} {s : State} {m : MethodId} {args : Array Value} {below : List Frame} {meth : Method} {c : Code} (S : CallFix p m c cX9_rowed 9 s args (wv yX9_rowed cX9_rowed 9 (some .int)) RX9) (hr : meth.sig.returnType = some .int) (hlocks : meth.locks = false) (hK : rfK D cA s) (r : Int32) (st' : CwS) (st0 : CwS) (st : CwS) (x1 : Nat) (fx1 : Nat) (hf_fx1 : rfF st x1 fx1) (x3 : Int32) (x4 : Int32) (H : Heap) (locs : List Loc) (ls : Array Slot) (h : j_Mo_rowed_L175 x1 x3 x4 st = some (r, st')) (hO : rfO D A b0 cA s st H locs) (hl : lv_has ls 9 [(1, .ref fx1), (3, .int x3), (4, .int x4)]) (E_st : Ext st0 st) : W p l e ({ frames := 2, cells := gR st' 101 2 - gR st0 101 2, slots := gR st' 101 3 - gR st0 101 3, locals := 52 }) s m args below meth c H locs (gR st 101 2 - gR st0 101 2) (gR st 101 3 - gR st0 101 3) (MQ below (rfQi D A b0 cA r st') args s (gR st' 101 2 - gR st0 101 2) (gR st' 101 3 - gR st0 101 3) A) (F0 m 175 ls []) := by
  obtain ⟨hx, hb, hml, hown, hts⟩ := S
  have hgw := fun (w : Cond) (h : w ∈ gwW) => hts w (List.mem_cons_of_mem _ h)
  have k97 := hgw _ w_bb1741c6
  have k100 := hgw _ w_36d04f4c
  have k103 := hgw _ w_05e7d7f0
  have k147 := hgw _ w_8ea2e188
  unfold j_Mo_rowed_L175 at h
  refine lv_iconst (v := 1) hx hb dX9_rowed_175 (by decide) ?_
  refine lv_goto (tgt := 180) hx hb dX9_rowed_176 (by decide) ?_
  refine lv_istore (lv' := [(5, .int ((1 : Int32))), (1, .ref fx1), (3, .int x3), (4, .int x4)]) hx hb dX9_rowed_180 hl (by decide) rfl (fun ls hl => ?_)
  refine lv_aload_n hx hb dX9_rowed_182 rfl (lv_at hl 1 rfl) ?_
  refine lv_iload_n hx hb dX9_rowed_183 rfl (lv_at hl 2 rfl) ?_
  refine lv_iconst (v := 1) hx hb dX9_rowed_184 (by decide) ?_
  refine lv_iadd hx hb dX9_rowed_185 ?_
  have y_st27 : Ext st st' := by
    obtain ⟨r26, st27, h28, h⟩ := bR_some h
    refine Ext.trans (a := st) (b := st27) (by have t := x_MF_isNumber h28; exact t) ?_
    by_cases c29 : r26 = ((0 : Int32))
    · have h := ite_t c29 h
      obtain ⟨-, rfl⟩ := ret2 h; exact (show Ext st27 _ from Ext.refl st27)
    · have h := ite_f c29 h
      by_cases c30 : x4 = ((0 : Int32))
      · have h := ite_t c30 h
        have t := x_Mo_rowed_L209 h; exact (show Ext st27 _ from t)
      · have h := ite_f c30 h
        obtain ⟨r55, st56, h57, h⟩ := bR_some h
        refine Ext.trans (a := st27) (b := st56) (by have t := x_MF_isNumber h57; exact t) ?_
        by_cases c58 : r55 = ((0 : Int32))
        · have h := ite_t c58 h
          obtain ⟨-, rfl⟩ := ret2 h; exact (show Ext st56 _ from Ext.refl st56)
        · have h := ite_f c58 h
          have t := x_Mo_rowed_L209 h; exact (show Ext st56 _ from t)
  obtain ⟨r26, st27, h28, h⟩ := bR_some h
  have x_st27 : Ext st st27 := by have t := x_MF_isNumber h28; exact t
  refine rf_calli (va_runV (As := [.int (x3 + ((1 : Int32)))]) (rest := []) ⟨hx, hb, hml, hown, hts⟩ (c_MF_isNumber l D A b0 cA st x1 fx1 hf_fx1 (x3 + ((1 : Int32))) r26 st27 h28) (cwV 1 hts (gw_V w_c76bdf02 w_8ae0f39a w_9dc8e263 w_18ea82d2 w_a2deccac) rfl rfl rfl (by decide +kernel) ⟨by show 0 + 1 ≤ 2; omega, by show 8 + (2 + 11) + (0) ≤ 52; omega⟩) (rf_preF hf_fx1 hK hO) rfl rfl hl.1 rfl (lv_room (Nat.le_of_ble_eq_true rfl)) dX9_rowed_186 ⟨by have q1 := E_st; have q2 := y_st27; unfold Ext at q1 q2; show (gR st 101 2 - gR st0 101 2) + 0 ≤ gR st' 101 2 - gR st0 101 2; omega, by have q1 := E_st; have q2 := y_st27; unfold Ext at q1 q2; show (gR st 101 3 - gR st0 101 3) + 0 ≤ gR st' 101 3 - gR st0 101 3; omega⟩) hO (fun H locs hO => ?_)
  have hf_fx1 : rfF st27 x1 fx1 := rfF.ext (show rfF st x1 fx1 from hf_fx1) x_st27
  have E_st27 : Ext st0 st27 := E_st.trans x_st27
  refine W.widen (k := gR st27 101 2 - gR st0 101 2) (n := gR st27 101 3 - gR st0 101 3) (by have q1 := E_st; have q2 := x_st27; unfold Ext at q1 q2; omega) (by have q1 := E_st; have q2 := x_st27; unfold Ext at q1 q2; omega) ?_
  refine lv_if_eq (tgt := 207) hx hb dX9_rowed_189 (by decide) (fun c29 => ?_) (fun c29 => ?_)
  · have h := ite_t c29 h
    refine lv_iconst (v := 4) hx hb dX9_rowed_207 (by decide) ?_
    obtain ⟨rfl, rfl⟩ := ret2 h; exact rf_iret hx hb hr hlocks hO dX9_rowed_208
  · have h := ite_f c29 h
    refine lv_iload hx hb dX9_rowed_192 (lv_at hl 3 rfl) ?_
    refine lv_if_eq (tgt := 209) hx hb dX9_rowed_194 (by decide) (fun c30 => ?_) (fun c30 => ?_)
    · have h := ite_t c30 h
      exact c_Mo_rowed_L209 ⟨hx, hb, hml, hown, hts⟩ hr hlocks hK r st' st0 st27 x1 fx1 hf_fx1 x3 x4 ((1 : Int32)) _ _ _ h hO (lv_sub hl [1, 2, 3, 0] rfl) (show Ext st0 _ from E_st27)
    · have h := ite_f c30 h
      refine lv_aload_n hx hb dX9_rowed_197 rfl (lv_at hl 1 rfl) ?_
      refine lv_iload_n hx hb dX9_rowed_198 rfl (lv_at hl 2 rfl) ?_
      refine lv_iconst (v := 2) hx hb dX9_rowed_199 (by decide) ?_
      refine lv_iadd hx hb dX9_rowed_200 ?_
      have y_st56 : Ext st27 st' := by
        obtain ⟨r55, st56, h57, h⟩ := bR_some h
        refine Ext.trans (a := st27) (b := st56) (by have t := x_MF_isNumber h57; exact t) ?_
        by_cases c58 : r55 = ((0 : Int32))
        · have h := ite_t c58 h
          obtain ⟨-, rfl⟩ := ret2 h; exact (show Ext st56 _ from Ext.refl st56)
        · have h := ite_f c58 h
          have t := x_Mo_rowed_L209 h; exact (show Ext st56 _ from t)
      obtain ⟨r55, st56, h57, h⟩ := bR_some h
      have x_st56 : Ext st27 st56 := by have t := x_MF_isNumber h57; exact t
      refine rf_calli (va_runV (As := [.int (x3 + ((2 : Int32)))]) (rest := []) ⟨hx, hb, hml, hown, hts⟩ (c_MF_isNumber l D A b0 cA st27 x1 fx1 hf_fx1 (x3 + ((2 : Int32))) r55 st56 h57) (cwV 1 hts (gw_V w_c76bdf02 w_8ae0f39a w_9dc8e263 w_18ea82d2 w_a2deccac) rfl rfl rfl (by decide +kernel) ⟨by show 0 + 1 ≤ 2; omega, by show 8 + (2 + 11) + (0) ≤ 52; omega⟩) (rf_preF hf_fx1 hK hO) rfl rfl hl.1 rfl (lv_room (Nat.le_of_ble_eq_true rfl)) dX9_rowed_201 ⟨by have q1 := E_st27; have q2 := y_st56; unfold Ext at q1 q2; show (gR st27 101 2 - gR st0 101 2) + 0 ≤ gR st' 101 2 - gR st0 101 2; omega, by have q1 := E_st27; have q2 := y_st56; unfold Ext at q1 q2; show (gR st27 101 3 - gR st0 101 3) + 0 ≤ gR st' 101 3 - gR st0 101 3; omega⟩) hO (fun H locs hO => ?_)
      have hf_fx1 : rfF st56 x1 fx1 := rfF.ext (show rfF st27 x1 fx1 from hf_fx1) x_st56
      have E_st56 : Ext st0 st56 := E_st27.trans x_st56
      refine W.widen (k := gR st56 101 2 - gR st0 101 2) (n := gR st56 101 3 - gR st0 101 3) (by have q1 := E_st27; have q2 := x_st56; unfold Ext at q1 q2; omega) (by have q1 := E_st27; have q2 := x_st56; unfold Ext at q1 q2; omega) ?_
      refine lv_if_ne (tgt := 209) hx hb dX9_rowed_204 (by decide) (fun c58 => ?_) (fun c58 => ?_)
      · have h := ite_f c58 h
        exact c_Mo_rowed_L209 ⟨hx, hb, hml, hown, hts⟩ hr hlocks hK r st' st0 st56 x1 fx1 hf_fx1 x3 x4 ((1 : Int32)) _ _ _ h hO (lv_sub hl [1, 2, 3, 0] rfl) (show Ext st0 _ from E_st56)
      · have h := ite_t c58 h
        refine lv_iconst (v := 4) hx hb dX9_rowed_207 (by decide) ?_
        obtain ⟨rfl, rfl⟩ := ret2 h; exact rf_iret hx hb hr hlocks hO dX9_rowed_208
set_option maxHeartbeats 4000000 in
set_option maxRecDepth 100000 in
theorem c_Mo_rowed_L108 {l : Launch} {D : va_G} {A : Nat → Prop} {b0 : Nat} {cA : Nat → ClassId} {p : Program} {e : Env} {s : State} {m : MethodId} {args : Array Value} {below : List Frame} {meth : Method} {c : Code} (S : CallFix p m c cX9_rowed 9 s args (wv yX9_rowed cX9_rowed 9 (some .int)) RX9) (hr : meth.sig.returnType = some .int) (hlocks : meth.locks = false) (hK : rfK D cA s) (r : Int32) (st' : CwS) (st0 : CwS) (st : CwS) (x1 : Nat) (fx1 : Nat) (hf_fx1 : rfF st x1 fx1) (x3 : Int32) (H : Heap) (locs : List Loc) (ls : Array Slot) (h : j_Mo_rowed_L108 x1 x3 st = some (r, st')) (hO : rfO D A b0 cA s st H locs) (hl : lv_has ls 9 [(1, .ref fx1), (3, .int x3)]) (E_st : Ext st0 st) : W p l e ({ frames := 2, cells := gR st' 101 2 - gR st0 101 2, slots := gR st' 101 3 - gR st0 101 3, locals := 52 }) s m args below meth c H locs (gR st 101 2 - gR st0 101 2) (gR st 101 3 - gR st0 101 3) (MQ below (rfQi D A b0 cA r st') args s (gR st' 101 2 - gR st0 101 2) (gR st' 101 3 - gR st0 101 3) A) (F0 m 108 ls []) := by
  obtain ⟨hx, hb, hml, hown, hts⟩ := S
  have hgw := fun (w : Cond) (h : w ∈ gwW) => hts w (List.mem_cons_of_mem _ h)
  have k97 := hgw _ w_bb1741c6
  have k100 := hgw _ w_36d04f4c
  have k103 := hgw _ w_05e7d7f0
  have k147 := hgw _ w_8ea2e188
  unfold j_Mo_rowed_L108 at h
  refine lv_aload_n hx hb dX9_rowed_108 rfl (lv_at hl 0 rfl) ?_
  refine gf_MF_sorts hx hb hgw iwMF hown hK hO hf_fx1 k100 dX9_rowed_109 ?_
  refine lv_iload_n hx hb dX9_rowed_112 rfl (lv_at hl 1 rfl) ?_
  obtain ⟨hc79, h⟩ := ck_some h
  refine al_MSorts hx hb hK hO hf_fx1 hc79 dX9_rowed_113 ?_
  refine lv_iconst (v := 3) hx hb dX9_rowed_114 (by decide) ?_
  refine lv_icmp_ne (tgt := 122) hx hb dX9_rowed_115 (by decide) (fun c80 => ?_) (fun c80 => ?_)
  · have h := ite_f c80 h
    refine lv_iconst (v := 4) hx hb dX9_rowed_122 (by decide) ?_
    obtain ⟨rfl, rfl⟩ := ret2 h; exact rf_iret hx hb hr hlocks hO dX9_rowed_123
  · have h := ite_t c80 h
    refine lv_iconst (v := 2) hx hb dX9_rowed_118 (by decide) ?_
    refine lv_goto (tgt := 123) hx hb dX9_rowed_119 (by decide) ?_
    obtain ⟨rfl, rfl⟩ := ret2 h; exact rf_iret hx hb hr hlocks hO dX9_rowed_123
set_option maxHeartbeats 4000000 in
set_option maxRecDepth 100000 in
theorem c_Mo_rowed_L46 {l : Launch} {D : va_G} {A : Nat → Prop} {b0 : Nat} {cA : Nat → ClassId} {p : Program} {e : Env} {s : State} {m : MethodId} {args : Array Value} {below : List Frame} {meth : Method} {c : Code} (S : CallFix p m c cX9_rowed 9 s args (wv yX9_rowed cX9_rowed 9 (some .int)) RX9) (hr : meth.sig.returnType = some .int) (hlocks : meth.locks = false) (hK : rfK D cA s) (r : Int32) (st' : CwS) (st0 : CwS) (st : CwS) (x4 : Int64) (H : Heap) (locs : List Loc) (ls : Array Slot) (h : j_Mo_rowed_L46 x4 st = some (r, st')) (hO : rfO D A b0 cA s st H locs) (hl : lv_has ls 9 [(4, .long x4)]) (E_st : Ext st0 st) : W p l e ({ frames := 2, cells := gR st' 101 2 - gR st0 101 2, slots := gR st' 101 3 - gR st0 101 3, locals := 52 }) s m args below meth c H locs (gR st 101 2 - gR st0 101 2) (gR st 101 3 - gR st0 101 3) (MQ below (rfQi D A b0 cA r st') args s (gR st' 101 2 - gR st0 101 2) (gR st' 101 3 - gR st0 101 3) A) (F0 m 46 ls []) := by
  obtain ⟨hx, hb, hml, hown, hts⟩ := S
  have hgw := fun (w : Cond) (h : w ∈ gwW) => hts w (List.mem_cons_of_mem _ h)
  have k97 := hgw _ w_bb1741c6
  have k100 := hgw _ w_36d04f4c
  have k103 := hgw _ w_05e7d7f0
  have k147 := hgw _ w_8ea2e188
  unfold j_Mo_rowed_L46 at h
  refine lv_lload hx hb dX9_rowed_46 (lv_at hl 0 rfl) ?_
  refine lv_lconst (v := 0) hx hb dX9_rowed_48 (by decide) ?_
  refine W.lcmp hx hb dX9_rowed_49 ?_
  refine lv_if_ge (tgt := 57) hx hb dX9_rowed_50 (by decide) (fun c8 => ?_) (fun c8 => ?_)
  · have h := ite_t c8 h
    refine lv_bipush (v := 6) hx hb dX9_rowed_57 (by decide) ?_
    obtain ⟨rfl, rfl⟩ := ret2 h; exact rf_iret hx hb hr hlocks hO dX9_rowed_59
  · have h := ite_f c8 h
    refine lv_iconst (v := 5) hx hb dX9_rowed_53 (by decide) ?_
    refine lv_goto (tgt := 59) hx hb dX9_rowed_54 (by decide) ?_
    obtain ⟨rfl, rfl⟩ := ret2 h; exact rf_iret hx hb hr hlocks hO dX9_rowed_59
set_option maxHeartbeats 4000000 in
set_option maxRecDepth 100000 in
theorem c_Mo_rowed_L12 {l : Launch} {D : va_G} {A : Nat → Prop} {b0 : Nat} {cA : Nat → ClassId} {p : Program} {e : Env} {s : State} {m : MethodId} {args : Array Value} {below : List Frame} {meth : Method} {c : Code} (S : CallFix p m c cX9_rowed 9 s args (wv yX9_rowed cX9_rowed 9 (some .int)) RX9) (hr : meth.sig.returnType = some .int) (hlocks : meth.locks = false) (hK : rfK D cA s) (r : Int32) (st' : CwS) (st0 : CwS) (st : CwS) (x1 : Nat) (fx1 : Nat) (hf_fx1 : rfF st x1 fx1) (x2 : Int32) (x3 : Int32) (H : Heap) (locs : List Loc) (ls : Array Slot) (h : j_Mo_rowed_L12 x1 x2 x3 st = some (r, st')) (hO : rfO D A b0 cA s st H locs) (hl : lv_has ls 9 [(1, .ref fx1), (2, .int x2), (3, .int x3)]) (E_st : Ext st0 st) : W p l e ({ frames := 2, cells := gR st' 101 2 - gR st0 101 2, slots := gR st' 101 3 - gR st0 101 3, locals := 52 }) s m args below meth c H locs (gR st 101 2 - gR st0 101 2) (gR st 101 3 - gR st0 101 3) (MQ below (rfQi D A b0 cA r st') args s (gR st' 101 2 - gR st0 101 2) (gR st' 101 3 - gR st0 101 3) A) (F0 m 12 ls []) := by
  obtain ⟨hx, hb, hml, hown, hts⟩ := S
  have hgw := fun (w : Cond) (h : w ∈ gwW) => hts w (List.mem_cons_of_mem _ h)
  have k97 := hgw _ w_bb1741c6
  have k100 := hgw _ w_36d04f4c
  have k103 := hgw _ w_05e7d7f0
  have k147 := hgw _ w_8ea2e188
  unfold j_Mo_rowed_L12 at h
  refine lv_aload_n hx hb dX9_rowed_12 rfl (lv_at hl 0 rfl) ?_
  refine lv_iload_n hx hb dX9_rowed_13 rfl (lv_at hl 2 rfl) ?_
  have y_st3 : Ext st st' := by
    obtain ⟨r2, st3, h4, h⟩ := bR_some h
    refine Ext.trans (a := st) (b := st3) (by have t := x_MF_isNumber h4; exact t) ?_
    by_cases c5 : r2 = ((0 : Int32))
    · have h := ite_t c5 h
      obtain ⟨-, rfl⟩ := ret2 h; exact (show Ext st3 _ from Ext.refl st3)
    · have h := ite_f c5 h
      obtain ⟨-, h⟩ := ck_some h
      by_cases c7 : (lg_cmp (gL st3 7 x1 x3.toNatClampNeg) ((0 : Int64))) < ((0 : Int32))
      · have h := ite_t c7 h
        have t := x_Mo_rowed_L46 h; exact (show Ext st3 _ from t)
      · have h := ite_f c7 h
        by_cases c9 : (lg_cmp (gL st3 7 x1 x3.toNatClampNeg) ((16 : Int64))) ≤ ((0 : Int32))
        · have h := ite_t c9 h
          by_cases c10 : x2 = ((15 : Int32))
          · have h := ite_t c10 h
            obtain ⟨-, h⟩ := ck_some h
            obtain ⟨st17, e_st17, h⟩ := bS_some h
            refine Ext.trans (b := st17) (by rw [e_st17]; exact Ext.new _ _) ?_
            obtain ⟨st19, h20, h⟩ := bV_some h
            refine Ext.trans (a := st17) (b := st19) (by have t := x_MF_push h20; exact t) ?_
            obtain ⟨-, rfl⟩ := ret2 h; exact (show Ext st19 _ from Ext.refl st19)
          · have h := ite_f c10 h
            obtain ⟨-, h⟩ := ck_some h
            obtain ⟨st12, e_st12, h⟩ := bS_some h
            refine Ext.trans (b := st12) (by rw [e_st12]; exact Ext.new _ _) ?_
            obtain ⟨st14, h15, h⟩ := bV_some h
            refine Ext.trans (a := st12) (b := st14) (by have t := x_MF_push h15; exact t) ?_
            obtain ⟨-, rfl⟩ := ret2 h; exact (show Ext st14 _ from Ext.refl st14)
        · have h := ite_f c9 h
          have t := x_Mo_rowed_L46 h; exact (show Ext st3 _ from t)
  obtain ⟨r2, st3, h4, h⟩ := bR_some h
  have x_st3 : Ext st st3 := by have t := x_MF_isNumber h4; exact t
  refine rf_calli (va_runV (As := [.int x3]) (rest := []) ⟨hx, hb, hml, hown, hts⟩ (c_MF_isNumber l D A b0 cA st x1 fx1 hf_fx1 x3 r2 st3 h4) (cwV 1 hts (gw_V w_c76bdf02 w_8ae0f39a w_9dc8e263 w_18ea82d2 w_a2deccac) rfl rfl rfl (by decide +kernel) ⟨by show 0 + 1 ≤ 2; omega, by show 8 + (2 + 11) + (0) ≤ 52; omega⟩) (rf_preF hf_fx1 hK hO) rfl rfl hl.1 rfl (lv_room (Nat.le_of_ble_eq_true rfl)) dX9_rowed_14 ⟨by have q1 := E_st; have q2 := y_st3; unfold Ext at q1 q2; show (gR st 101 2 - gR st0 101 2) + 0 ≤ gR st' 101 2 - gR st0 101 2; omega, by have q1 := E_st; have q2 := y_st3; unfold Ext at q1 q2; show (gR st 101 3 - gR st0 101 3) + 0 ≤ gR st' 101 3 - gR st0 101 3; omega⟩) hO (fun H locs hO => ?_)
  have hf_fx1 : rfF st3 x1 fx1 := rfF.ext (show rfF st x1 fx1 from hf_fx1) x_st3
  have E_st3 : Ext st0 st3 := E_st.trans x_st3
  refine W.widen (k := gR st3 101 2 - gR st0 101 2) (n := gR st3 101 3 - gR st0 101 3) (by have q1 := E_st; have q2 := x_st3; unfold Ext at q1 q2; omega) (by have q1 := E_st; have q2 := x_st3; unfold Ext at q1 q2; omega) ?_
  refine lv_if_ne (tgt := 22) hx hb dX9_rowed_17 (by decide) (fun c5 => ?_) (fun c5 => ?_)
  · have h := ite_f c5 h
    refine lv_aload_n hx hb dX9_rowed_22 rfl (lv_at hl 0 rfl) ?_
    refine gf_MF_n hx hb hgw iwMF hown hK hO hf_fx1 k97 dX9_rowed_23 ?_
    refine lv_iload_n hx hb dX9_rowed_26 rfl (lv_at hl 2 rfl) ?_
    obtain ⟨hc6, h⟩ := ck_some h
    refine al_MN hx hb hK hO hf_fx1 hc6 dX9_rowed_27 ?_
    refine lv_lstore (lv' := [(4, .long (gL st3 7 x1 x3.toNatClampNeg)), (1, .ref fx1), (2, .int x2), (3, .int x3)]) hx hb dX9_rowed_28 hl (by decide) rfl (fun ls hl => ?_)
    refine lv_lload hx hb dX9_rowed_30 (lv_at hl 0 rfl) ?_
    refine lv_lconst (v := 0) hx hb dX9_rowed_32 (by decide) ?_
    refine W.lcmp hx hb dX9_rowed_33 ?_
    refine lv_if_lt (tgt := 46) hx hb dX9_rowed_34 (by decide) (fun c7 => ?_) (fun c7 => ?_)
    · have h := ite_t c7 h
      exact c_Mo_rowed_L46 ⟨hx, hb, hml, hown, hts⟩ hr hlocks hK r st' st0 st3 (gL st3 7 x1 x3.toNatClampNeg) _ _ _ h hO (lv_sub hl [0] rfl) (show Ext st0 _ from E_st3)
    · have h := ite_f c7 h
      refine lv_lload hx hb dX9_rowed_37 (lv_at hl 0 rfl) ?_
      refine lv_ldc2 hx hb hown k147 dX9_rowed_39 ?_
      refine W.lcmp hx hb dX9_rowed_42 ?_
      refine lv_if_le (tgt := 60) hx hb dX9_rowed_43 (by decide) (fun c9 => ?_) (fun c9 => ?_)
      · have h := ite_t c9 h
        refine lv_aload_n hx hb dX9_rowed_60 rfl (lv_at hl 1 rfl) ?_
        refine lv_iload_n hx hb dX9_rowed_61 rfl (lv_at hl 2 rfl) ?_
        refine lv_bipush (v := 15) hx hb dX9_rowed_62 (by decide) ?_
        refine lv_icmp_ne (tgt := 71) hx hb dX9_rowed_64 (by decide) (fun c10 => ?_) (fun c10 => ?_)
        · have h := ite_f c10 h
          refine lv_iconst (v := 2) hx hb dX9_rowed_71 (by decide) ?_
          refine lv_lconst (v := 0) hx hb dX9_rowed_72 (by decide) ?_
          refine lv_lload hx hb dX9_rowed_73 (lv_at hl 0 rfl) ?_
          refine lv_l2i hx hb dX9_rowed_75 rfl ?_
          obtain ⟨hc11, h⟩ := ck_some h
          obtain ⟨st12, e_st12, h⟩ := bS_some h
          have x_st12 : Ext st3 st12 := by rw [e_st12]; exact Ext.new _ _
          have y_st12 : Ext st12 st' := by
            obtain ⟨st14, h15, h⟩ := bV_some h
            refine Ext.trans (a := st12) (b := st14) (by have t := x_MF_push h15; exact t) ?_
            obtain ⟨-, rfl⟩ := ret2 h; exact (show Ext st14 _ from Ext.refl st14)
          have z_st12 : gR st12 101 2 = gR st3 101 2 + 1 := by rw [e_st12]; rfl
          have w_st12 : gR st12 101 3 = gR st3 101 3 + ((gL st3 7 x1 x3.toNatClampNeg).toInt32).toNatClampNeg := by rw [e_st12]; rfl
          refine rf_new hx hb (hgw _ w_f2af499d) hK hO hc11 e_st12 (by have q1 := E_st3; have q2 := y_st12; unfold Ext at q1 q2; show (gR st3 101 2 - gR st0 101 2) + 1 ≤ gR st' 101 2 - gR st0 101 2; omega) (by have q1 := E_st3; have q2 := y_st12; unfold Ext at q1 q2; show (gR st3 101 3 - gR st0 101 3) + ((gL st3 7 x1 x3.toNatClampNeg).toInt32).toNatClampNeg ≤ gR st' 101 3 - gR st0 101 3; omega) dX9_rowed_76 (fun H hO => ?_)
          have E_st12 : Ext st0 st12 := E_st3.trans x_st12
          have hf_fx1 := hf_fx1.ext x_st12
          refine W.widen (k := gR st12 101 2 - gR st0 101 2) (n := gR st12 101 3 - gR st0 101 3) (by have q1 := E_st3; have q2 := y_st12; unfold Ext at q1 q2; omega) (by have q1 := E_st3; have q2 := y_st12; unfold Ext at q1 q2; omega) ?_
          have y_st14 : Ext st12 st' := by
            obtain ⟨st14, h15, h⟩ := bV_some h
            refine Ext.trans (a := st12) (b := st14) (by have t := x_MF_push h15; exact t) ?_
            obtain ⟨-, rfl⟩ := ret2 h; exact (show Ext st14 _ from Ext.refl st14)
          obtain ⟨st14, h15, h⟩ := bV_some h
          have x_st14 : Ext st12 st14 := by have t := x_MF_push h15; exact t
          refine rf_callv (va_runV (As := [.int ((2 : Int32)), .long ((0 : Int64)), rq (gR st3 101 2 + 1)]) (rest := []) ⟨hx, hb, hml, hown, hts⟩ (c_MF_push l D A b0 cA st12 x1 fx1 hf_fx1 ((2 : Int32)) ((0 : Int64)) (gR st3 101 2 + 1) st14 h15) (cwV 3 hts (gw_V w_e1c787ee w_e0cb4f46 w_a23f96d7 w_18ea82d2 w_3edceb25) rfl rfl rfl (by decide +kernel) ⟨by show 0 + 1 ≤ 2; omega, by show 8 + (5 + 11) + (0) ≤ 52; omega⟩) (rf_preF hf_fx1 hK hO) rfl rfl hl.1 rfl (lv_room (Nat.le_of_ble_eq_true rfl)) dX9_rowed_78 ⟨by have q1 := E_st12; have q2 := y_st14; unfold Ext at q1 q2; show (gR st12 101 2 - gR st0 101 2) + 0 ≤ gR st' 101 2 - gR st0 101 2; omega, by have q1 := E_st12; have q2 := y_st14; unfold Ext at q1 q2; show (gR st12 101 3 - gR st0 101 3) + 0 ≤ gR st' 101 3 - gR st0 101 3; omega⟩) hO (fun H locs hO => ?_)
          have hf_fx1 : rfF st14 x1 fx1 := rfF.ext (show rfF st12 x1 fx1 from hf_fx1) x_st14
          have E_st14 : Ext st0 st14 := E_st12.trans x_st14
          refine W.widen (k := gR st14 101 2 - gR st0 101 2) (n := gR st14 101 3 - gR st0 101 3) (by have q1 := E_st12; have q2 := x_st14; unfold Ext at q1 q2; omega) (by have q1 := E_st12; have q2 := x_st14; unfold Ext at q1 q2; omega) ?_
          refine lv_iconst (v := 0) hx hb dX9_rowed_81 (by decide) ?_
          obtain ⟨rfl, rfl⟩ := ret2 h; exact rf_iret hx hb hr hlocks hO dX9_rowed_82
        · have h := ite_t c10 h
          refine lv_iconst (v := 1) hx hb dX9_rowed_67 (by decide) ?_
          refine lv_goto (tgt := 72) hx hb dX9_rowed_68 (by decide) ?_
          refine lv_lconst (v := 0) hx hb dX9_rowed_72 (by decide) ?_
          refine lv_lload hx hb dX9_rowed_73 (lv_at hl 0 rfl) ?_
          refine lv_l2i hx hb dX9_rowed_75 rfl ?_
          obtain ⟨hc16, h⟩ := ck_some h
          obtain ⟨st17, e_st17, h⟩ := bS_some h
          have x_st17 : Ext st3 st17 := by rw [e_st17]; exact Ext.new _ _
          have y_st17 : Ext st17 st' := by
            obtain ⟨st19, h20, h⟩ := bV_some h
            refine Ext.trans (a := st17) (b := st19) (by have t := x_MF_push h20; exact t) ?_
            obtain ⟨-, rfl⟩ := ret2 h; exact (show Ext st19 _ from Ext.refl st19)
          have z_st17 : gR st17 101 2 = gR st3 101 2 + 1 := by rw [e_st17]; rfl
          have w_st17 : gR st17 101 3 = gR st3 101 3 + ((gL st3 7 x1 x3.toNatClampNeg).toInt32).toNatClampNeg := by rw [e_st17]; rfl
          refine rf_new hx hb (hgw _ w_f2af499d) hK hO hc16 e_st17 (by have q1 := E_st3; have q2 := y_st17; unfold Ext at q1 q2; show (gR st3 101 2 - gR st0 101 2) + 1 ≤ gR st' 101 2 - gR st0 101 2; omega) (by have q1 := E_st3; have q2 := y_st17; unfold Ext at q1 q2; show (gR st3 101 3 - gR st0 101 3) + ((gL st3 7 x1 x3.toNatClampNeg).toInt32).toNatClampNeg ≤ gR st' 101 3 - gR st0 101 3; omega) dX9_rowed_76 (fun H hO => ?_)
          have E_st17 : Ext st0 st17 := E_st3.trans x_st17
          have hf_fx1 := hf_fx1.ext x_st17
          refine W.widen (k := gR st17 101 2 - gR st0 101 2) (n := gR st17 101 3 - gR st0 101 3) (by have q1 := E_st3; have q2 := y_st17; unfold Ext at q1 q2; omega) (by have q1 := E_st3; have q2 := y_st17; unfold Ext at q1 q2; omega) ?_
          have y_st19 : Ext st17 st' := by
            obtain ⟨st19, h20, h⟩ := bV_some h
            refine Ext.trans (a := st17) (b := st19) (by have t := x_MF_push h20; exact t) ?_
            obtain ⟨-, rfl⟩ := ret2 h; exact (show Ext st19 _ from Ext.refl st19)
          obtain ⟨st19, h20, h⟩ := bV_some h
          have x_st19 : Ext st17 st19 := by have t := x_MF_push h20; exact t
          refine rf_callv (va_runV (As := [.int ((1 : Int32)), .long ((0 : Int64)), rq (gR st3 101 2 + 1)]) (rest := []) ⟨hx, hb, hml, hown, hts⟩ (c_MF_push l D A b0 cA st17 x1 fx1 hf_fx1 ((1 : Int32)) ((0 : Int64)) (gR st3 101 2 + 1) st19 h20) (cwV 3 hts (gw_V w_e1c787ee w_e0cb4f46 w_a23f96d7 w_18ea82d2 w_3edceb25) rfl rfl rfl (by decide +kernel) ⟨by show 0 + 1 ≤ 2; omega, by show 8 + (5 + 11) + (0) ≤ 52; omega⟩) (rf_preF hf_fx1 hK hO) rfl rfl hl.1 rfl (lv_room (Nat.le_of_ble_eq_true rfl)) dX9_rowed_78 ⟨by have q1 := E_st17; have q2 := y_st19; unfold Ext at q1 q2; show (gR st17 101 2 - gR st0 101 2) + 0 ≤ gR st' 101 2 - gR st0 101 2; omega, by have q1 := E_st17; have q2 := y_st19; unfold Ext at q1 q2; show (gR st17 101 3 - gR st0 101 3) + 0 ≤ gR st' 101 3 - gR st0 101 3; omega⟩) hO (fun H locs hO => ?_)
          have hf_fx1 : rfF st19 x1 fx1 := rfF.ext (show rfF st17 x1 fx1 from hf_fx1) x_st19
          have E_st19 : Ext st0 st19 := E_st17.trans x_st19
          refine W.widen (k := gR st19 101 2 - gR st0 101 2) (n := gR st19 101 3 - gR st0 101 3) (by have q1 := E_st17; have q2 := x_st19; unfold Ext at q1 q2; omega) (by have q1 := E_st17; have q2 := x_st19; unfold Ext at q1 q2; omega) ?_
          refine lv_iconst (v := 0) hx hb dX9_rowed_81 (by decide) ?_
          obtain ⟨rfl, rfl⟩ := ret2 h; exact rf_iret hx hb hr hlocks hO dX9_rowed_82
      · have h := ite_f c9 h
        exact c_Mo_rowed_L46 ⟨hx, hb, hml, hown, hts⟩ hr hlocks hK r st' st0 st3 (gL st3 7 x1 x3.toNatClampNeg) _ _ _ h hO (lv_sub hl [0] rfl) (show Ext st0 _ from E_st3)
  · have h := ite_t c5 h
    refine lv_iconst (v := 4) hx hb dX9_rowed_20 (by decide) ?_
    obtain ⟨rfl, rfl⟩ := ret2 h; exact rf_iret hx hb hr hlocks hO dX9_rowed_21
set_option maxHeartbeats 4000000 in
set_option maxRecDepth 100000 in
theorem c_Mo_rowed (l : Launch) (D : va_G) (A : Nat → Prop) (b0 : Nat) (cA : Nat → ClassId) (st0 : CwS) (a1 : Nat) (fa1 : Nat) (hf_fa1 : rfF st0 a1 fa1) (a2 : Int32) (a3 : Int32) (r : Int32) (st' : CwS) (h : j_Mo_rowed a1 a2 a3 st0 = some (r, st')) : Met l yX9_rowed (wv yX9_rowed cX9_rowed 9 (some .int)) ({ frames := 2, cells := gR st' 101 2 - gR st0 101 2, slots := gR st' 101 3 - gR st0 101 3, locals := 52 }) (va_Pc [.ref b0, .ref fa1, .int a2, .int a3] (rfU D A b0 cA st0)) (rfQi D A b0 cA r st') (gR st' 101 2 - gR st0 101 2) (gR st' 101 3 - gR st0 101 3) A := by
  refine Met.ofW (cc := cX9_rowed) (maxL := 9) (ret := some .int) (by decide) rfl ?_
  intro p e s m args below meth c s₁ B hml hv
  obtain ⟨rfl, hP, hD, hz, hK⟩ := hv
  have hx := B.exec
  have hb := B.bytes
  have hr := B.returns
  have hts := atoms_spec (ws := wv yX9_rowed cX9_rowed 9 (some .int)) B.pre
  have hown : s.vm.findClass RX9 = some m.cls := findClass_of_methodNamed B.named
  have hlocks := B.notSynchronized
  have hO : rfO D A b0 cA s st0 s.heap [] := ⟨hP, hD, va_S.rf, hz⟩
  have hl := lv_entry ([.ref b0, .ref fa1, .int a2, .int a3]) (n := 9) (Nat.le_of_ble_eq_true rfl)
  rw [lg_entry_eq]
  generalize (lg_sl ([.ref b0, .ref fa1, .int a2, .int a3]) ++ List.replicate (9 - (lg_sl ([.ref b0, .ref fa1, .int a2, .int a3])).length) Slot.unset).toArray = ls at hl ⊢
  have hl : lv_has ls 9 [(0, .ref b0), (1, .ref fa1), (2, .int a2), (3, .int a3)] := hl
  have hgw := fun (w : Cond) (h : w ∈ gwW) => hts w (List.mem_cons_of_mem _ h)
  have k97 := hgw _ w_bb1741c6
  have k100 := hgw _ w_36d04f4c
  have k103 := hgw _ w_05e7d7f0
  have k147 := hgw _ w_8ea2e188
  unfold j_Mo_rowed at h
  have E_st0 := Ext.refl st0
  refine W.widen (k := gR st0 101 2 - gR st0 101 2) (n := gR st0 101 3 - gR st0 101 3) (Nat.zero_le _) (Nat.zero_le _) ?_
  refine lv_iload_n hx hb dX9_rowed_0 rfl (lv_at hl 2 rfl) ?_
  refine lv_bipush (v := 15) hx hb dX9_rowed_1 (by decide) ?_
  refine lv_icmp_eq (tgt := 12) hx hb dX9_rowed_3 (by decide) (fun c1 => ?_) (fun c1 => ?_)
  · have h := ite_t c1 h
    exact c_Mo_rowed_L12 ⟨hx, hb, hml, hown, hts⟩ hr hlocks hK r st' st0 st0 a1 fa1 hf_fa1 a2 a3 _ _ _ h hO (lv_sub hl [1, 2, 3] rfl) (show Ext st0 _ from E_st0)
  · have h := ite_f c1 h
    refine lv_iload_n hx hb dX9_rowed_6 rfl (lv_at hl 2 rfl) ?_
    refine lv_bipush (v := 16) hx hb dX9_rowed_7 (by decide) ?_
    refine lv_icmp_ne (tgt := 83) hx hb dX9_rowed_9 (by decide) (fun c21 => ?_) (fun c21 => ?_)
    · have h := ite_f c21 h
      refine lv_iload_n hx hb dX9_rowed_83 rfl (lv_at hl 2 rfl) ?_
      refine lv_bipush (v := 21) hx hb dX9_rowed_84 (by decide) ?_
      refine lv_icmp_ne (tgt := 138) hx hb dX9_rowed_86 (by decide) (fun c22 => ?_) (fun c22 => ?_)
      · have h := ite_f c22 h
        refine lv_iload_n hx hb dX9_rowed_138 rfl (lv_at hl 2 rfl) ?_
        refine lv_bipush (v := 23) hx hb dX9_rowed_139 (by decide) ?_
        refine lv_icmp_ne (tgt := 150) hx hb dX9_rowed_141 (by decide) (fun c23 => ?_) (fun c23 => ?_)
        · have h := ite_f c23 h
          refine lv_iload_n hx hb dX9_rowed_150 rfl (lv_at hl 2 rfl) ?_
          refine lv_bipush (v := 19) hx hb dX9_rowed_151 (by decide) ?_
          refine lv_icmp_lt (tgt := 160) hx hb dX9_rowed_153 (by decide) (fun c24 => ?_) (fun c24 => ?_)
          · have h := ite_t c24 h
            refine lv_iconst (v := 0) hx hb dX9_rowed_160 (by decide) ?_
            refine lv_istore (lv' := [(4, .int ((0 : Int32))), (0, .ref b0), (1, .ref fa1), (2, .int a2), (3, .int a3)]) hx hb dX9_rowed_161 hl (by decide) rfl (fun ls hl => ?_)
            refine lv_iload_n hx hb dX9_rowed_163 rfl (lv_at hl 3 rfl) ?_
            refine lv_bipush (v := 17) hx hb dX9_rowed_164 (by decide) ?_
            refine lv_icmp_eq (tgt := 175) hx hb dX9_rowed_166 (by decide) (fun c25 => ?_) (fun c25 => ?_)
            · have h := ite_t c25 h
              exact c_Mo_rowed_L175 ⟨hx, hb, hml, hown, hts⟩ hr hlocks hK r st' st0 st0 a1 fa1 hf_fa1 a3 ((0 : Int32)) _ _ _ h hO (lv_sub hl [2, 4, 0] rfl) (show Ext st0 _ from E_st0)
            · have h := ite_f c25 h
              refine lv_iload_n hx hb dX9_rowed_169 rfl (lv_at hl 3 rfl) ?_
              refine lv_bipush (v := 19) hx hb dX9_rowed_170 (by decide) ?_
              refine lv_icmp_ne (tgt := 179) hx hb dX9_rowed_172 (by decide) (fun c59 => ?_) (fun c59 => ?_)
              · have h := ite_f c59 h
                refine lv_iconst (v := 2) hx hb dX9_rowed_179 (by decide) ?_
                refine lv_istore (lv' := [(5, .int ((2 : Int32))), (4, .int ((0 : Int32))), (0, .ref b0), (1, .ref fa1), (2, .int a2), (3, .int a3)]) hx hb dX9_rowed_180 hl (by decide) rfl (fun ls hl => ?_)
                refine lv_aload_n hx hb dX9_rowed_182 rfl (lv_at hl 3 rfl) ?_
                refine lv_iload_n hx hb dX9_rowed_183 rfl (lv_at hl 5 rfl) ?_
                refine lv_iconst (v := 1) hx hb dX9_rowed_184 (by decide) ?_
                refine lv_iadd hx hb dX9_rowed_185 ?_
                have y_st61 : Ext st0 st' := by
                  obtain ⟨r60, st61, h62, h⟩ := bR_some h
                  refine Ext.trans (a := st0) (b := st61) (by have t := x_MF_isNumber h62; exact t) ?_
                  by_cases c63 : r60 = ((0 : Int32))
                  · have h := ite_t c63 h
                    obtain ⟨-, rfl⟩ := ret2 h; exact (show Ext st61 _ from Ext.refl st61)
                  · have h := ite_f c63 h
                    have t := x_Mo_rowed_L209 h; exact (show Ext st61 _ from t)
                obtain ⟨r60, st61, h62, h⟩ := bR_some h
                have x_st61 : Ext st0 st61 := by have t := x_MF_isNumber h62; exact t
                refine rf_calli (va_runV (As := [.int (a3 + ((1 : Int32)))]) (rest := []) ⟨hx, hb, hml, hown, hts⟩ (c_MF_isNumber l D A b0 cA st0 a1 fa1 hf_fa1 (a3 + ((1 : Int32))) r60 st61 h62) (cwV 1 hts (gw_V w_c76bdf02 w_8ae0f39a w_9dc8e263 w_18ea82d2 w_a2deccac) rfl rfl rfl (by decide +kernel) ⟨by show 0 + 1 ≤ 2; omega, by show 8 + (2 + 11) + (0) ≤ 52; omega⟩) (rf_preF hf_fa1 hK hO) rfl rfl hl.1 rfl (lv_room (Nat.le_of_ble_eq_true rfl)) dX9_rowed_186 ⟨by have q1 := E_st0; have q2 := y_st61; unfold Ext at q1 q2; show (gR st0 101 2 - gR st0 101 2) + 0 ≤ gR st' 101 2 - gR st0 101 2; omega, by have q1 := E_st0; have q2 := y_st61; unfold Ext at q1 q2; show (gR st0 101 3 - gR st0 101 3) + 0 ≤ gR st' 101 3 - gR st0 101 3; omega⟩) hO (fun H locs hO => ?_)
                have hf_fa1 : rfF st61 a1 fa1 := rfF.ext (show rfF st0 a1 fa1 from hf_fa1) x_st61
                have E_st61 : Ext st0 st61 := E_st0.trans x_st61
                refine W.widen (k := gR st61 101 2 - gR st0 101 2) (n := gR st61 101 3 - gR st0 101 3) (by have q1 := E_st0; have q2 := x_st61; unfold Ext at q1 q2; omega) (by have q1 := E_st0; have q2 := x_st61; unfold Ext at q1 q2; omega) ?_
                refine lv_if_eq (tgt := 207) hx hb dX9_rowed_189 (by decide) (fun c63 => ?_) (fun c63 => ?_)
                · have h := ite_t c63 h
                  refine lv_iconst (v := 4) hx hb dX9_rowed_207 (by decide) ?_
                  obtain ⟨rfl, rfl⟩ := ret2 h; exact rf_iret hx hb hr hlocks hO dX9_rowed_208
                · have h := ite_f c63 h
                  refine lv_iload hx hb dX9_rowed_192 (lv_at hl 1 rfl) ?_
                  refine lv_if_eq (tgt := 209) hx hb dX9_rowed_194 (by decide) (fun _ => ?_) (fun c0 => absurd c0 (by decide))
                  exact c_Mo_rowed_L209 ⟨hx, hb, hml, hown, hts⟩ hr hlocks hK r st' st0 st61 a1 fa1 hf_fa1 a3 ((0 : Int32)) ((2 : Int32)) _ _ _ h hO (lv_sub hl [3, 5, 1, 0] rfl) (show Ext st0 _ from E_st61)
              · have h := ite_t c59 h
                exact c_Mo_rowed_L175 ⟨hx, hb, hml, hown, hts⟩ hr hlocks hK r st' st0 st0 a1 fa1 hf_fa1 a3 ((0 : Int32)) _ _ _ h hO (lv_sub hl [2, 4, 0] rfl) (show Ext st0 _ from E_st0)
          · have h := ite_f c24 h
            refine lv_iconst (v := 1) hx hb dX9_rowed_156 (by decide) ?_
            refine lv_goto (tgt := 161) hx hb dX9_rowed_157 (by decide) ?_
            refine lv_istore (lv' := [(4, .int ((1 : Int32))), (0, .ref b0), (1, .ref fa1), (2, .int a2), (3, .int a3)]) hx hb dX9_rowed_161 hl (by decide) rfl (fun ls hl => ?_)
            refine lv_iload_n hx hb dX9_rowed_163 rfl (lv_at hl 3 rfl) ?_
            refine lv_bipush (v := 17) hx hb dX9_rowed_164 (by decide) ?_
            refine lv_icmp_eq (tgt := 175) hx hb dX9_rowed_166 (by decide) (fun c64 => ?_) (fun c64 => ?_)
            · have h := ite_t c64 h
              exact c_Mo_rowed_L175 ⟨hx, hb, hml, hown, hts⟩ hr hlocks hK r st' st0 st0 a1 fa1 hf_fa1 a3 ((1 : Int32)) _ _ _ h hO (lv_sub hl [2, 4, 0] rfl) (show Ext st0 _ from E_st0)
            · have h := ite_f c64 h
              refine lv_iload_n hx hb dX9_rowed_169 rfl (lv_at hl 3 rfl) ?_
              refine lv_bipush (v := 19) hx hb dX9_rowed_170 (by decide) ?_
              refine lv_icmp_ne (tgt := 179) hx hb dX9_rowed_172 (by decide) (fun c65 => ?_) (fun c65 => ?_)
              · have h := ite_f c65 h
                refine lv_iconst (v := 2) hx hb dX9_rowed_179 (by decide) ?_
                refine lv_istore (lv' := [(5, .int ((2 : Int32))), (4, .int ((1 : Int32))), (0, .ref b0), (1, .ref fa1), (2, .int a2), (3, .int a3)]) hx hb dX9_rowed_180 hl (by decide) rfl (fun ls hl => ?_)
                refine lv_aload_n hx hb dX9_rowed_182 rfl (lv_at hl 3 rfl) ?_
                refine lv_iload_n hx hb dX9_rowed_183 rfl (lv_at hl 5 rfl) ?_
                refine lv_iconst (v := 1) hx hb dX9_rowed_184 (by decide) ?_
                refine lv_iadd hx hb dX9_rowed_185 ?_
                have y_st67 : Ext st0 st' := by
                  obtain ⟨r66, st67, h68, h⟩ := bR_some h
                  refine Ext.trans (a := st0) (b := st67) (by have t := x_MF_isNumber h68; exact t) ?_
                  by_cases c69 : r66 = ((0 : Int32))
                  · have h := ite_t c69 h
                    obtain ⟨-, rfl⟩ := ret2 h; exact (show Ext st67 _ from Ext.refl st67)
                  · have h := ite_f c69 h
                    obtain ⟨r70, st71, h72, h⟩ := bR_some h
                    refine Ext.trans (a := st67) (b := st71) (by have t := x_MF_isNumber h72; exact t) ?_
                    by_cases c73 : r70 = ((0 : Int32))
                    · have h := ite_t c73 h
                      obtain ⟨-, rfl⟩ := ret2 h; exact (show Ext st71 _ from Ext.refl st71)
                    · have h := ite_f c73 h
                      have t := x_Mo_rowed_L209 h; exact (show Ext st71 _ from t)
                obtain ⟨r66, st67, h68, h⟩ := bR_some h
                have x_st67 : Ext st0 st67 := by have t := x_MF_isNumber h68; exact t
                refine rf_calli (va_runV (As := [.int (a3 + ((1 : Int32)))]) (rest := []) ⟨hx, hb, hml, hown, hts⟩ (c_MF_isNumber l D A b0 cA st0 a1 fa1 hf_fa1 (a3 + ((1 : Int32))) r66 st67 h68) (cwV 1 hts (gw_V w_c76bdf02 w_8ae0f39a w_9dc8e263 w_18ea82d2 w_a2deccac) rfl rfl rfl (by decide +kernel) ⟨by show 0 + 1 ≤ 2; omega, by show 8 + (2 + 11) + (0) ≤ 52; omega⟩) (rf_preF hf_fa1 hK hO) rfl rfl hl.1 rfl (lv_room (Nat.le_of_ble_eq_true rfl)) dX9_rowed_186 ⟨by have q1 := E_st0; have q2 := y_st67; unfold Ext at q1 q2; show (gR st0 101 2 - gR st0 101 2) + 0 ≤ gR st' 101 2 - gR st0 101 2; omega, by have q1 := E_st0; have q2 := y_st67; unfold Ext at q1 q2; show (gR st0 101 3 - gR st0 101 3) + 0 ≤ gR st' 101 3 - gR st0 101 3; omega⟩) hO (fun H locs hO => ?_)
                have hf_fa1 : rfF st67 a1 fa1 := rfF.ext (show rfF st0 a1 fa1 from hf_fa1) x_st67
                have E_st67 : Ext st0 st67 := E_st0.trans x_st67
                refine W.widen (k := gR st67 101 2 - gR st0 101 2) (n := gR st67 101 3 - gR st0 101 3) (by have q1 := E_st0; have q2 := x_st67; unfold Ext at q1 q2; omega) (by have q1 := E_st0; have q2 := x_st67; unfold Ext at q1 q2; omega) ?_
                refine lv_if_eq (tgt := 207) hx hb dX9_rowed_189 (by decide) (fun c69 => ?_) (fun c69 => ?_)
                · have h := ite_t c69 h
                  refine lv_iconst (v := 4) hx hb dX9_rowed_207 (by decide) ?_
                  obtain ⟨rfl, rfl⟩ := ret2 h; exact rf_iret hx hb hr hlocks hO dX9_rowed_208
                · have h := ite_f c69 h
                  refine lv_iload hx hb dX9_rowed_192 (lv_at hl 1 rfl) ?_
                  refine lv_if_eq (tgt := 209) hx hb dX9_rowed_194 (by decide) (fun c0 => absurd c0 (by decide)) (fun _ => ?_)
                  refine lv_aload_n hx hb dX9_rowed_197 rfl (lv_at hl 3 rfl) ?_
                  refine lv_iload_n hx hb dX9_rowed_198 rfl (lv_at hl 5 rfl) ?_
                  refine lv_iconst (v := 2) hx hb dX9_rowed_199 (by decide) ?_
                  refine lv_iadd hx hb dX9_rowed_200 ?_
                  have y_st71 : Ext st67 st' := by
                    obtain ⟨r70, st71, h72, h⟩ := bR_some h
                    refine Ext.trans (a := st67) (b := st71) (by have t := x_MF_isNumber h72; exact t) ?_
                    by_cases c73 : r70 = ((0 : Int32))
                    · have h := ite_t c73 h
                      obtain ⟨-, rfl⟩ := ret2 h; exact (show Ext st71 _ from Ext.refl st71)
                    · have h := ite_f c73 h
                      have t := x_Mo_rowed_L209 h; exact (show Ext st71 _ from t)
                  obtain ⟨r70, st71, h72, h⟩ := bR_some h
                  have x_st71 : Ext st67 st71 := by have t := x_MF_isNumber h72; exact t
                  refine rf_calli (va_runV (As := [.int (a3 + ((2 : Int32)))]) (rest := []) ⟨hx, hb, hml, hown, hts⟩ (c_MF_isNumber l D A b0 cA st67 a1 fa1 hf_fa1 (a3 + ((2 : Int32))) r70 st71 h72) (cwV 1 hts (gw_V w_c76bdf02 w_8ae0f39a w_9dc8e263 w_18ea82d2 w_a2deccac) rfl rfl rfl (by decide +kernel) ⟨by show 0 + 1 ≤ 2; omega, by show 8 + (2 + 11) + (0) ≤ 52; omega⟩) (rf_preF hf_fa1 hK hO) rfl rfl hl.1 rfl (lv_room (Nat.le_of_ble_eq_true rfl)) dX9_rowed_201 ⟨by have q1 := E_st67; have q2 := y_st71; unfold Ext at q1 q2; show (gR st67 101 2 - gR st0 101 2) + 0 ≤ gR st' 101 2 - gR st0 101 2; omega, by have q1 := E_st67; have q2 := y_st71; unfold Ext at q1 q2; show (gR st67 101 3 - gR st0 101 3) + 0 ≤ gR st' 101 3 - gR st0 101 3; omega⟩) hO (fun H locs hO => ?_)
                  have hf_fa1 : rfF st71 a1 fa1 := rfF.ext (show rfF st67 a1 fa1 from hf_fa1) x_st71
                  have E_st71 : Ext st0 st71 := E_st67.trans x_st71
                  refine W.widen (k := gR st71 101 2 - gR st0 101 2) (n := gR st71 101 3 - gR st0 101 3) (by have q1 := E_st67; have q2 := x_st71; unfold Ext at q1 q2; omega) (by have q1 := E_st67; have q2 := x_st71; unfold Ext at q1 q2; omega) ?_
                  refine lv_if_ne (tgt := 209) hx hb dX9_rowed_204 (by decide) (fun c73 => ?_) (fun c73 => ?_)
                  · have h := ite_f c73 h
                    exact c_Mo_rowed_L209 ⟨hx, hb, hml, hown, hts⟩ hr hlocks hK r st' st0 st71 a1 fa1 hf_fa1 a3 ((1 : Int32)) ((2 : Int32)) _ _ _ h hO (lv_sub hl [3, 5, 1, 0] rfl) (show Ext st0 _ from E_st71)
                  · have h := ite_t c73 h
                    refine lv_iconst (v := 4) hx hb dX9_rowed_207 (by decide) ?_
                    obtain ⟨rfl, rfl⟩ := ret2 h; exact rf_iret hx hb hr hlocks hO dX9_rowed_208
              · have h := ite_t c65 h
                exact c_Mo_rowed_L175 ⟨hx, hb, hml, hown, hts⟩ hr hlocks hK r st' st0 st0 a1 fa1 hf_fa1 a3 ((1 : Int32)) _ _ _ h hO (lv_sub hl [2, 4, 0] rfl) (show Ext st0 _ from E_st0)
        · have h := ite_t c23 h
          refine lv_aload_n hx hb dX9_rowed_144 rfl (lv_at hl 1 rfl) ?_
          refine lv_iload_n hx hb dX9_rowed_145 rfl (lv_at hl 3 rfl) ?_
          have y_st75 : Ext st0 st' := by
            obtain ⟨r74, st75, h76, h⟩ := bR_some h
            refine Ext.trans (a := st0) (b := st75) (by have t := x_Mo_copied h76; exact t) ?_
            obtain ⟨-, rfl⟩ := ret2 h; exact (show Ext st75 _ from Ext.refl st75)
          obtain ⟨r74, st75, h76, h⟩ := bR_some h
          have x_st75 : Ext st0 st75 := by have t := x_Mo_copied h76; exact t
          have y2_st75 : Ext st75 st' := by
            obtain ⟨-, rfl⟩ := ret2 h; exact (show Ext st75 _ from Ext.refl st75)
          refine rf_calli (va_runS (As := [.ref fa1, .int a3]) (rest := []) ⟨hx, hb, hml, hown, hts⟩ (c_Mo_copied l D A b0 cA st0 a1 fa1 hf_fa1 a3 r74 st75 h76) (va_cwS 2 hts (gw_S w_1f7c1ee6 w_6e675983 w_18f41a94 w_18c0e591) rfl rfl rfl (by decide +kernel) ⟨by show 1 + 1 ≤ 2; omega, by show 8 + (12 + 11) + (21) ≤ 52; omega⟩) (rf_preS hK hO) rfl rfl hl.1 rfl (lv_room (Nat.le_of_ble_eq_true rfl)) dX9_rowed_146 ⟨by have q1 := E_st0; have q2 := x_st75; have q3 := y2_st75; unfold Ext at q1 q2 q3; show (gR st0 101 2 - gR st0 101 2) + (gR st75 101 2 - gR st0 101 2) ≤ gR st' 101 2 - gR st0 101 2; omega, by have q1 := E_st0; have q2 := x_st75; have q3 := y2_st75; unfold Ext at q1 q2 q3; show (gR st0 101 3 - gR st0 101 3) + (gR st75 101 3 - gR st0 101 3) ≤ gR st' 101 3 - gR st0 101 3; omega⟩) hO (fun H locs hO => ?_)
          have hf_fa1 : rfF st75 a1 fa1 := rfF.ext (show rfF st0 a1 fa1 from hf_fa1) x_st75
          have E_st75 : Ext st0 st75 := E_st0.trans x_st75
          refine W.widen (k := gR st75 101 2 - gR st0 101 2) (n := gR st75 101 3 - gR st0 101 3) (by have q1 := E_st0; have q2 := x_st75; unfold Ext at q1 q2; omega) (by have q1 := E_st0; have q2 := x_st75; unfold Ext at q1 q2; omega) ?_
          obtain ⟨rfl, rfl⟩ := ret2 h; exact rf_iret hx hb hr hlocks hO dX9_rowed_149
      · have h := ite_t c22 h
        refine lv_aload_n hx hb dX9_rowed_89 rfl (lv_at hl 1 rfl) ?_
        refine gf_MF_sorts hx hb hgw iwMF hown hK hO hf_fa1 k100 dX9_rowed_90 ?_
        refine lv_iload_n hx hb dX9_rowed_93 rfl (lv_at hl 3 rfl) ?_
        obtain ⟨hc77, h⟩ := ck_some h
        refine al_MSorts hx hb hK hO hf_fa1 hc77 dX9_rowed_94 ?_
        refine lv_iconst (v := 3) hx hb dX9_rowed_95 (by decide) ?_
        refine lv_icmp_eq (tgt := 108) hx hb dX9_rowed_96 (by decide) (fun c78 => ?_) (fun c78 => ?_)
        · have h := ite_t c78 h
          exact c_Mo_rowed_L108 ⟨hx, hb, hml, hown, hts⟩ hr hlocks hK r st' st0 st0 a1 fa1 hf_fa1 a3 _ _ _ h hO (lv_sub hl [1, 3] rfl) (show Ext st0 _ from E_st0)
        · have h := ite_f c78 h
          refine lv_aload_n hx hb dX9_rowed_99 rfl (lv_at hl 1 rfl) ?_
          refine gf_MF_sorts hx hb hgw iwMF hown hK hO hf_fa1 k100 dX9_rowed_100 ?_
          refine lv_iload_n hx hb dX9_rowed_103 rfl (lv_at hl 3 rfl) ?_
          obtain ⟨hc81, h⟩ := ck_some h
          refine al_MSorts hx hb hK hO hf_fa1 hc81 dX9_rowed_104 ?_
          refine lv_if_ne (tgt := 124) hx hb dX9_rowed_105 (by decide) (fun c82 => ?_) (fun c82 => ?_)
          · have h := ite_f c82 h
            refine lv_aload_n hx hb dX9_rowed_124 rfl (lv_at hl 1 rfl) ?_
            refine lv_aload_n hx hb dX9_rowed_125 rfl (lv_at hl 1 rfl) ?_
            refine gf_MF_rows hx hb hgw iwMF hown hK hO hf_fa1 k103 dX9_rowed_126 ?_
            refine lv_iload_n hx hb dX9_rowed_129 rfl (lv_at hl 3 rfl) ?_
            obtain ⟨hc83, h⟩ := ck_some h
            refine al_MRows hx hb hK hO hf_fa1 hc83 dX9_rowed_130 ?_
            obtain ⟨hc84, h⟩ := ck_some h
            refine an_Row hx hb hK hO hc84 dX9_rowed_131 ?_
            refine lv_i2l hx hb dX9_rowed_132 rfl ?_
            have y_st86 : Ext st0 st' := by
              obtain ⟨st86, h87, h⟩ := bV_some h
              refine Ext.trans (a := st0) (b := st86) (by have t := x_MF_number h87; exact t) ?_
              obtain ⟨-, rfl⟩ := ret2 h; exact (show Ext st86 _ from Ext.refl st86)
            obtain ⟨st86, h87, h⟩ := bV_some h
            have x_st86 : Ext st0 st86 := by have t := x_MF_number h87; exact t
            refine rf_callv (va_runV (As := [.long ((Int32.ofNat (gR st0 100 ((gR st0 50 (16 * a1 + a3.toNatClampNeg)) - 1))).toInt64)]) (rest := []) ⟨hx, hb, hml, hown, hts⟩ (c_MF_number l D A b0 cA st0 a1 fa1 hf_fa1 ((Int32.ofNat (gR st0 100 ((gR st0 50 (16 * a1 + a3.toNatClampNeg)) - 1))).toInt64) st86 h87) (cwV 1 hts (gw_V w_a50611e6 w_8ebaf0f1 w_dd21e4d3 w_18ea82d2 w_54e1986d) rfl rfl rfl (by decide +kernel) ⟨by show 1 + 1 ≤ 2; omega, by show 8 + (3 + 11) + (24) ≤ 52; omega⟩) (rf_preF hf_fa1 hK hO) rfl rfl hl.1 rfl (lv_room (Nat.le_of_ble_eq_true rfl)) dX9_rowed_133 ⟨by have q1 := E_st0; have q2 := y_st86; unfold Ext at q1 q2; show (gR st0 101 2 - gR st0 101 2) + 0 ≤ gR st' 101 2 - gR st0 101 2; omega, by have q1 := E_st0; have q2 := y_st86; unfold Ext at q1 q2; show (gR st0 101 3 - gR st0 101 3) + 0 ≤ gR st' 101 3 - gR st0 101 3; omega⟩) hO (fun H locs hO => ?_)
            have hf_fa1 : rfF st86 a1 fa1 := rfF.ext (show rfF st0 a1 fa1 from hf_fa1) x_st86
            have E_st86 : Ext st0 st86 := E_st0.trans x_st86
            refine W.widen (k := gR st86 101 2 - gR st0 101 2) (n := gR st86 101 3 - gR st0 101 3) (by have q1 := E_st0; have q2 := x_st86; unfold Ext at q1 q2; omega) (by have q1 := E_st0; have q2 := x_st86; unfold Ext at q1 q2; omega) ?_
            refine lv_iconst (v := 0) hx hb dX9_rowed_136 (by decide) ?_
            obtain ⟨rfl, rfl⟩ := ret2 h; exact rf_iret hx hb hr hlocks hO dX9_rowed_137
          · have h := ite_t c82 h
            exact c_Mo_rowed_L108 ⟨hx, hb, hml, hown, hts⟩ hr hlocks hK r st' st0 st0 a1 fa1 hf_fa1 a3 _ _ _ h hO (lv_sub hl [1, 3] rfl) (show Ext st0 _ from E_st0)
    · have h := ite_t c21 h
      exact c_Mo_rowed_L12 ⟨hx, hb, hml, hown, hts⟩ hr hlocks hK r st' st0 st0 a1 fa1 hf_fa1 a2 a3 _ _ _ h hO (lv_sub hl [1, 2, 3] rfl) (show Ext st0 _ from E_st0)
