-- Rows lengthOf
def j_Rows_lengthOf (a0 : Nat) (a1 : Int64) (st : CwS) : Option (Int32 × CwS) :=
  if (lg_cmp a1 ((0 : Int64))) < ((0 : Int32)) then
    some ((0 : Int32), st)
  else
    if ((0 : Int32)) ≤ (lg_cmp a1 ((12 : Int64))) then
      some ((0 : Int32), st)
    else
      ck (ix a1.toInt32 12) <|
      some (gI st 20 a0 a1.toInt32.toNatClampNeg, st)
set_option maxHeartbeats 4000000 in
set_option maxRecDepth 100000 in
theorem c_Rows_lengthOf (l : Launch) (D : va_G) (A : Nat → Prop) (ad : Nat → Nat) (cA : Nat → ClassId) (tb0 tb1 : Nat) (a0 : Nat) (ha0 : a0 < 10) (a1 : Int64) (st : CwS) (r : Int32) (st' : CwS) (h : j_Rows_lengthOf a0 a1 st = some (r, st')) : Met l yX5_lengthOf (wv yX5_lengthOf cX5_lengthOf 3 (some .int)) ({ frames := 0, cells := 0, slots := 0, locals := 0 }) (va_Pc [.ref (ad (185 + 9 * a0)), .long a1] (cwU D A ad cA tb0 tb1 st)) (cwQi D A ad cA tb0 tb1 r st') 0 0 A := by
  refine Met.ofW (cc := cX5_lengthOf) (maxL := 3) (ret := some .int) (by decide) rfl ?_
  intro p e s m args below meth c s₁ B hml hv
  obtain ⟨rfl, hP, hK⟩ := hv
  have hx := B.exec
  have hb := B.bytes
  have hr := B.returns
  have hts := atoms_spec (ws := wv yX5_lengthOf cX5_lengthOf 3 (some .int)) B.pre
  have hown : s.vm.findClass RX5 = some m.cls := findClass_of_methodNamed B.named
  have hlocks := B.notSynchronized
  have hO : cwO D A ad cA s st s.heap [] := ⟨hP, va_S.rf⟩
  have hl := lv_entry ([.ref (ad (185 + 9 * a0)), .long a1]) (n := 3) (Nat.le_of_ble_eq_true rfl)
  rw [lg_entry_eq]
  generalize (lg_sl ([.ref (ad (185 + 9 * a0)), .long a1]) ++ List.replicate (3 - (lg_sl ([.ref (ad (185 + 9 * a0)), .long a1])).length) Slot.unset).toArray = ls at hl ⊢
  have hl : lv_has ls 3 [(0, .ref (ad (185 + 9 * a0))), (1, .long a1)] := hl
  have _h0 := hO
  have hgw := fun (w : Cond) (h : w ∈ gwW) => hts w (List.mem_cons_of_mem _ h)
  have k15 := hgw _ w_642cd4aa
  have k72 := hgw _ w_8acbe09c
  unfold j_Rows_lengthOf at h
  refine lv_lload_n hx hb dX5_lengthOf_0 rfl (lv_at hl 1 rfl) ?_
  refine lv_lconst (v := 0) hx hb dX5_lengthOf_1 (by decide) ?_
  refine W.lcmp hx hb dX5_lengthOf_2 ?_
  refine lv_if_lt (tgt := 24) hx hb dX5_lengthOf_3 (by decide) (fun c1 => ?_) (fun c1 => ?_)
  · have h := ite_t c1 h
    refine lv_iconst (v := 0) hx hb dX5_lengthOf_24 (by decide) ?_
    obtain ⟨rfl, rfl⟩ := ret2 h; exact cw_iret hx hb hr hlocks hO dX5_lengthOf_25
  · have h := ite_f c1 h
    refine lv_lload_n hx hb dX5_lengthOf_6 rfl (lv_at hl 1 rfl) ?_
    refine lv_ldc2 hx hb hown k72 dX5_lengthOf_7 ?_
    refine W.lcmp hx hb dX5_lengthOf_10 ?_
    refine lv_if_ge (tgt := 24) hx hb dX5_lengthOf_11 (by decide) (fun c2 => ?_) (fun c2 => ?_)
    · have h := ite_t c2 h
      refine lv_iconst (v := 0) hx hb dX5_lengthOf_24 (by decide) ?_
      obtain ⟨rfl, rfl⟩ := ret2 h; exact cw_iret hx hb hr hlocks hO dX5_lengthOf_25
    · have h := ite_f c2 h
      refine lv_aload_n hx hb dX5_lengthOf_14 rfl (lv_at hl 0 rfl) ?_
      refine gf_Rows_lengths hx hb hgw iwRows hown hK hO ha0 k15 dX5_lengthOf_15 ?_
      refine lv_lload_n hx hb dX5_lengthOf_18 rfl (lv_at hl 1 rfl) ?_
      refine lv_l2i hx hb dX5_lengthOf_19 rfl ?_
      obtain ⟨hc3, h⟩ := ck_some h
      refine al_Lens hx hb hK hO ha0 hc3 dX5_lengthOf_20 ?_
      refine lv_goto (tgt := 25) hx hb dX5_lengthOf_21 (by decide) ?_
      obtain ⟨rfl, rfl⟩ := ret2 h; exact cw_iret hx hb hr hlocks hO dX5_lengthOf_25
-- Rows placeOf
def j_Rows_placeOf (a0 : Nat) (a1 : Int64) (a3 : Int64) (st : CwS) : Option (Int32 × CwS) :=
  some ((a1.toInt32 * ((16 : Int32))) + a3.toInt32, st)
set_option maxHeartbeats 4000000 in
set_option maxRecDepth 100000 in
theorem c_Rows_placeOf (l : Launch) (D : va_G) (A : Nat → Prop) (ad : Nat → Nat) (cA : Nat → ClassId) (tb0 tb1 : Nat) (a0 : Nat) (ha0 : a0 < 10) (a1 : Int64) (a3 : Int64) (st : CwS) (r : Int32) (st' : CwS) (h : j_Rows_placeOf a0 a1 a3 st = some (r, st')) : Met l yX5_placeOf (wv yX5_placeOf cX5_placeOf 5 (some .int)) ({ frames := 0, cells := 0, slots := 0, locals := 0 }) (va_Pc [.ref (ad (185 + 9 * a0)), .long a1, .long a3] (cwU D A ad cA tb0 tb1 st)) (cwQi D A ad cA tb0 tb1 r st') 0 0 A := by
  refine Met.ofW (cc := cX5_placeOf) (maxL := 5) (ret := some .int) (by decide) rfl ?_
  intro p e s m args below meth c s₁ B hml hv
  obtain ⟨rfl, hP, hK⟩ := hv
  have hx := B.exec
  have hb := B.bytes
  have hr := B.returns
  have hts := atoms_spec (ws := wv yX5_placeOf cX5_placeOf 5 (some .int)) B.pre
  have hown : s.vm.findClass RX5 = some m.cls := findClass_of_methodNamed B.named
  have hlocks := B.notSynchronized
  have hO : cwO D A ad cA s st s.heap [] := ⟨hP, va_S.rf⟩
  have hl := lv_entry ([.ref (ad (185 + 9 * a0)), .long a1, .long a3]) (n := 5) (Nat.le_of_ble_eq_true rfl)
  rw [lg_entry_eq]
  generalize (lg_sl ([.ref (ad (185 + 9 * a0)), .long a1, .long a3]) ++ List.replicate (5 - (lg_sl ([.ref (ad (185 + 9 * a0)), .long a1, .long a3])).length) Slot.unset).toArray = ls at hl ⊢
  have hl : lv_has ls 5 [(0, .ref (ad (185 + 9 * a0))), (1, .long a1), (3, .long a3)] := hl
  have _h0 := hO
  have hgw := fun (w : Cond) (h : w ∈ gwW) => hts w (List.mem_cons_of_mem _ h)
  unfold j_Rows_placeOf at h
  refine lv_lload_n hx hb dX5_placeOf_0 rfl (lv_at hl 1 rfl) ?_
  refine lv_l2i hx hb dX5_placeOf_1 rfl ?_
  refine lv_bipush (v := 16) hx hb dX5_placeOf_2 (by decide) ?_
  refine lv_imul hx hb dX5_placeOf_4 ?_
  refine lv_lload_n hx hb dX5_placeOf_5 rfl (lv_at hl 2 rfl) ?_
  refine lv_l2i hx hb dX5_placeOf_6 rfl ?_
  refine lv_iadd hx hb dX5_placeOf_7 ?_
  obtain ⟨rfl, rfl⟩ := ret2 h; exact cw_iret hx hb hr hlocks hO dX5_placeOf_8
-- Rows hasRange
def j_Rows_hasRange (a0 : Nat) (a1 : Int64) (a3 : Int64) (a5 : Int64) (st : CwS) : Option (Int32 × CwS) :=
  bR (j_Rows_lengthOf a0 a1 st) fun r1 st2 =>
  if (lg_cmp a5 ((0 : Int64))) < ((0 : Int32)) then
    some ((0 : Int32), st2)
  else
    if (lg_cmp a3 ((0 : Int64))) < ((0 : Int32)) then
      some ((0 : Int32), st2)
    else
      if ((0 : Int32)) < (lg_cmp a3 r1.toInt64) then
        some ((0 : Int32), st2)
      else
        if ((0 : Int32)) < (lg_cmp a5 (r1.toInt64 - a3)) then
          some ((0 : Int32), st2)
        else
          some ((1 : Int32), st2)
set_option maxHeartbeats 4000000 in
set_option maxRecDepth 100000 in
theorem c_Rows_hasRange (l : Launch) (D : va_G) (A : Nat → Prop) (ad : Nat → Nat) (cA : Nat → ClassId) (tb0 tb1 : Nat) (a0 : Nat) (ha0 : a0 < 10) (a1 : Int64) (a3 : Int64) (a5 : Int64) (st : CwS) (r : Int32) (st' : CwS) (h : j_Rows_hasRange a0 a1 a3 a5 st = some (r, st')) : Met l yX5_hasRange (wv yX5_hasRange cX5_hasRange 8 (some .boolean)) ({ frames := 1, cells := 0, slots := 0, locals := 22 }) (va_Pc [.ref (ad (185 + 9 * a0)), .long a1, .long a3, .long a5] (cwU D A ad cA tb0 tb1 st)) (cwQi D A ad cA tb0 tb1 r st') 0 0 A := by
  refine Met.ofW (cc := cX5_hasRange) (maxL := 8) (ret := some .boolean) (by decide) rfl ?_
  intro p e s m args below meth c s₁ B hml hv
  obtain ⟨rfl, hP, hK⟩ := hv
  have hx := B.exec
  have hb := B.bytes
  have hr := B.returns
  have hts := atoms_spec (ws := wv yX5_hasRange cX5_hasRange 8 (some .boolean)) B.pre
  have hown : s.vm.findClass RX5 = some m.cls := findClass_of_methodNamed B.named
  have hlocks := B.notSynchronized
  have hO : cwO D A ad cA s st s.heap [] := ⟨hP, va_S.rf⟩
  have hl := lv_entry ([.ref (ad (185 + 9 * a0)), .long a1, .long a3, .long a5]) (n := 8) (Nat.le_of_ble_eq_true rfl)
  rw [lg_entry_eq]
  generalize (lg_sl ([.ref (ad (185 + 9 * a0)), .long a1, .long a3, .long a5]) ++ List.replicate (8 - (lg_sl ([.ref (ad (185 + 9 * a0)), .long a1, .long a3, .long a5])).length) Slot.unset).toArray = ls at hl ⊢
  have hl : lv_has ls 8 [(0, .ref (ad (185 + 9 * a0))), (1, .long a1), (3, .long a3), (5, .long a5)] := hl
  have _h0 := hO
  have hgw := fun (w : Cond) (h : w ∈ gwW) => hts w (List.mem_cons_of_mem _ h)
  unfold j_Rows_hasRange at h
  refine lv_aload_n hx hb dX5_hasRange_0 rfl (lv_at hl 0 rfl) ?_
  refine lv_lload_n hx hb dX5_hasRange_1 rfl (lv_at hl 1 rfl) ?_
  obtain ⟨r1, st2, h3, h⟩ := bR_some h
  refine cw_calli (va_runV (As := [.long a1]) (rest := []) ⟨hx, hb, hml, hown, hts⟩ (c_Rows_lengthOf l D A ad cA tb0 tb1 a0 ha0 a1 st r1 st2 h3) (cwV 1 hts (gw_V w_eb771c37 w_47a11451 w_e6548b4e w_8bdbd0d2 w_69ff08de) rfl rfl rfl (by decide +kernel) ⟨Nat.le_of_ble_eq_true rfl, Nat.le_of_ble_eq_true rfl⟩) (cw_preV (k := 185 + 9 * a0) (ci := 5) hK hO rfl (by have := ha0; omega) (cc_Rows ha0)) rfl rfl hl.1 rfl (lv_room (Nat.le_of_ble_eq_true rfl)) dX5_hasRange_2 ⟨Nat.zero_le _, Nat.zero_le _⟩) hO (fun H locs hO => ?_)
  refine lv_istore (lv' := [(7, .int r1), (0, .ref (ad (185 + 9 * a0))), (1, .long a1), (3, .long a3), (5, .long a5)]) hx hb dX5_hasRange_5 hl (by decide) rfl (fun ls hl => ?_)
  refine lv_lload hx hb dX5_hasRange_7 (lv_at hl 4 rfl) ?_
  refine lv_lconst (v := 0) hx hb dX5_hasRange_9 (by decide) ?_
  refine W.lcmp hx hb dX5_hasRange_10 ?_
  refine lv_if_lt (tgt := 43) hx hb dX5_hasRange_11 (by decide) (fun c4 => ?_) (fun c4 => ?_)
  · have h := ite_t c4 h
    refine lv_iconst (v := 0) hx hb dX5_hasRange_43 (by decide) ?_
    obtain ⟨rfl, rfl⟩ := ret2 h; exact cw_zret hx hb hr hlocks hO rfl dX5_hasRange_44
  · have h := ite_f c4 h
    refine lv_lload_n hx hb dX5_hasRange_14 rfl (lv_at hl 3 rfl) ?_
    refine lv_lconst (v := 0) hx hb dX5_hasRange_15 (by decide) ?_
    refine W.lcmp hx hb dX5_hasRange_16 ?_
    refine lv_if_lt (tgt := 43) hx hb dX5_hasRange_17 (by decide) (fun c5 => ?_) (fun c5 => ?_)
    · have h := ite_t c5 h
      refine lv_iconst (v := 0) hx hb dX5_hasRange_43 (by decide) ?_
      obtain ⟨rfl, rfl⟩ := ret2 h; exact cw_zret hx hb hr hlocks hO rfl dX5_hasRange_44
    · have h := ite_f c5 h
      refine lv_lload_n hx hb dX5_hasRange_20 rfl (lv_at hl 3 rfl) ?_
      refine lv_iload hx hb dX5_hasRange_21 (lv_at hl 0 rfl) ?_
      refine lv_i2l hx hb dX5_hasRange_23 rfl ?_
      refine W.lcmp hx hb dX5_hasRange_24 ?_
      refine lv_if_gt (tgt := 43) hx hb dX5_hasRange_25 (by decide) (fun c6 => ?_) (fun c6 => ?_)
      · have h := ite_t c6 h
        refine lv_iconst (v := 0) hx hb dX5_hasRange_43 (by decide) ?_
        obtain ⟨rfl, rfl⟩ := ret2 h; exact cw_zret hx hb hr hlocks hO rfl dX5_hasRange_44
      · have h := ite_f c6 h
        refine lv_lload hx hb dX5_hasRange_28 (lv_at hl 4 rfl) ?_
        refine lv_iload hx hb dX5_hasRange_30 (lv_at hl 0 rfl) ?_
        refine lv_i2l hx hb dX5_hasRange_32 rfl ?_
        refine lv_lload_n hx hb dX5_hasRange_33 rfl (lv_at hl 3 rfl) ?_
        refine lv_lsub hx hb dX5_hasRange_34 ?_
        refine W.lcmp hx hb dX5_hasRange_35 ?_
        refine lv_if_gt (tgt := 43) hx hb dX5_hasRange_36 (by decide) (fun c7 => ?_) (fun c7 => ?_)
        · have h := ite_t c7 h
          refine lv_iconst (v := 0) hx hb dX5_hasRange_43 (by decide) ?_
          obtain ⟨rfl, rfl⟩ := ret2 h; exact cw_zret hx hb hr hlocks hO rfl dX5_hasRange_44
        · have h := ite_f c7 h
          refine lv_iconst (v := 1) hx hb dX5_hasRange_39 (by decide) ?_
          refine lv_goto (tgt := 44) hx hb dX5_hasRange_40 (by decide) ?_
          obtain ⟨rfl, rfl⟩ := ret2 h; exact cw_zret hx hb hr hlocks hO rfl dX5_hasRange_44
-- Rows elementFailure
def j_Rows_elementFailure (a0 : Nat) (a1 : Int32) (a2 : Int32) (a3 : Int64) (a5 : Int64) (st : CwS) : Option (Int32 × CwS) :=
  if a2 = ((3 : Int32)) then
    some ((2 : Int32), st)
  else
    if a2 = a1 then
      if (lg_cmp a5 ((0 : Int64))) < ((0 : Int32)) then
        some ((3 : Int32), st)
      else
        bR (j_Rows_lengthOf a0 a3 st) fun r4 st5 =>
        if ((0 : Int32)) ≤ (lg_cmp a5 r4.toInt64) then
          some ((3 : Int32), st5)
        else
          some ((0 : Int32), st5)
    else
      some ((4 : Int32), st)
set_option maxHeartbeats 4000000 in
set_option maxRecDepth 100000 in
theorem c_Rows_elementFailure (l : Launch) (D : va_G) (A : Nat → Prop) (ad : Nat → Nat) (cA : Nat → ClassId) (tb0 tb1 : Nat) (a0 : Nat) (ha0 : a0 < 10) (a1 : Int32) (a2 : Int32) (a3 : Int64) (a5 : Int64) (st : CwS) (r : Int32) (st' : CwS) (h : j_Rows_elementFailure a0 a1 a2 a3 a5 st = some (r, st')) : Met l yX5_elementFailure (wv yX5_elementFailure cX5_elementFailure 7 (some .int)) ({ frames := 1, cells := 0, slots := 0, locals := 22 }) (va_Pc [.ref (ad (185 + 9 * a0)), .int a1, .int a2, .long a3, .long a5] (cwU D A ad cA tb0 tb1 st)) (cwQi D A ad cA tb0 tb1 r st') 0 0 A := by
  refine Met.ofW (cc := cX5_elementFailure) (maxL := 7) (ret := some .int) (by decide) rfl ?_
  intro p e s m args below meth c s₁ B hml hv
  obtain ⟨rfl, hP, hK⟩ := hv
  have hx := B.exec
  have hb := B.bytes
  have hr := B.returns
  have hts := atoms_spec (ws := wv yX5_elementFailure cX5_elementFailure 7 (some .int)) B.pre
  have hown : s.vm.findClass RX5 = some m.cls := findClass_of_methodNamed B.named
  have hlocks := B.notSynchronized
  have hO : cwO D A ad cA s st s.heap [] := ⟨hP, va_S.rf⟩
  have hl := lv_entry ([.ref (ad (185 + 9 * a0)), .int a1, .int a2, .long a3, .long a5]) (n := 7) (Nat.le_of_ble_eq_true rfl)
  rw [lg_entry_eq]
  generalize (lg_sl ([.ref (ad (185 + 9 * a0)), .int a1, .int a2, .long a3, .long a5]) ++ List.replicate (7 - (lg_sl ([.ref (ad (185 + 9 * a0)), .int a1, .int a2, .long a3, .long a5])).length) Slot.unset).toArray = ls at hl ⊢
  have hl : lv_has ls 7 [(0, .ref (ad (185 + 9 * a0))), (1, .int a1), (2, .int a2), (3, .long a3), (5, .long a5)] := hl
  have _h0 := hO
  have hgw := fun (w : Cond) (h : w ∈ gwW) => hts w (List.mem_cons_of_mem _ h)
  unfold j_Rows_elementFailure at h
  refine lv_iload_n hx hb dX5_elementFailure_0 rfl (lv_at hl 2 rfl) ?_
  refine lv_iconst (v := 3) hx hb dX5_elementFailure_1 (by decide) ?_
  refine lv_icmp_ne (tgt := 7) hx hb dX5_elementFailure_2 (by decide) (fun c1 => ?_) (fun c1 => ?_)
  · have h := ite_f c1 h
    refine lv_iload_n hx hb dX5_elementFailure_7 rfl (lv_at hl 2 rfl) ?_
    refine lv_iload_n hx hb dX5_elementFailure_8 rfl (lv_at hl 1 rfl) ?_
    refine lv_icmp_eq (tgt := 14) hx hb dX5_elementFailure_9 (by decide) (fun c2 => ?_) (fun c2 => ?_)
    · have h := ite_t c2 h
      refine lv_lload hx hb dX5_elementFailure_14 (lv_at hl 4 rfl) ?_
      refine lv_lconst (v := 0) hx hb dX5_elementFailure_16 (by decide) ?_
      refine W.lcmp hx hb dX5_elementFailure_17 ?_
      refine lv_if_lt (tgt := 37) hx hb dX5_elementFailure_18 (by decide) (fun c3 => ?_) (fun c3 => ?_)
      · have h := ite_t c3 h
        refine lv_iconst (v := 3) hx hb dX5_elementFailure_37 (by decide) ?_
        obtain ⟨rfl, rfl⟩ := ret2 h; exact cw_iret hx hb hr hlocks hO dX5_elementFailure_38
      · have h := ite_f c3 h
        refine lv_lload hx hb dX5_elementFailure_21 (lv_at hl 4 rfl) ?_
        refine lv_aload_n hx hb dX5_elementFailure_23 rfl (lv_at hl 0 rfl) ?_
        refine lv_lload_n hx hb dX5_elementFailure_24 rfl (lv_at hl 3 rfl) ?_
        obtain ⟨r4, st5, h6, h⟩ := bR_some h
        refine cw_calli (va_runV (As := [.long a3]) (rest := [.long a5]) ⟨hx, hb, hml, hown, hts⟩ (c_Rows_lengthOf l D A ad cA tb0 tb1 a0 ha0 a3 st r4 st5 h6) (cwV 1 hts (gw_V w_eb771c37 w_47a11451 w_e6548b4e w_8bdbd0d2 w_69ff08de) rfl rfl rfl (by decide +kernel) ⟨Nat.le_of_ble_eq_true rfl, Nat.le_of_ble_eq_true rfl⟩) (cw_preV (k := 185 + 9 * a0) (ci := 5) hK hO rfl (by have := ha0; omega) (cc_Rows ha0)) rfl rfl hl.1 rfl (lv_room (Nat.le_of_ble_eq_true rfl)) dX5_elementFailure_25 ⟨Nat.zero_le _, Nat.zero_le _⟩) hO (fun H locs hO => ?_)
        refine lv_i2l hx hb dX5_elementFailure_28 rfl ?_
        refine W.lcmp hx hb dX5_elementFailure_29 ?_
        refine lv_if_ge (tgt := 37) hx hb dX5_elementFailure_30 (by decide) (fun c7 => ?_) (fun c7 => ?_)
        · have h := ite_t c7 h
          refine lv_iconst (v := 3) hx hb dX5_elementFailure_37 (by decide) ?_
          obtain ⟨rfl, rfl⟩ := ret2 h; exact cw_iret hx hb hr hlocks hO dX5_elementFailure_38
        · have h := ite_f c7 h
          refine lv_iconst (v := 0) hx hb dX5_elementFailure_33 (by decide) ?_
          refine lv_goto (tgt := 38) hx hb dX5_elementFailure_34 (by decide) ?_
          obtain ⟨rfl, rfl⟩ := ret2 h; exact cw_iret hx hb hr hlocks hO dX5_elementFailure_38
    · have h := ite_f c2 h
      refine lv_iconst (v := 4) hx hb dX5_elementFailure_12 (by decide) ?_
      obtain ⟨rfl, rfl⟩ := ret2 h; exact cw_iret hx hb hr hlocks hO dX5_elementFailure_13
  · have h := ite_t c1 h
    refine lv_iconst (v := 2) hx hb dX5_elementFailure_5 (by decide) ?_
    obtain ⟨rfl, rfl⟩ := ret2 h; exact cw_iret hx hb hr hlocks hO dX5_elementFailure_6
-- Rows putNew
def j_Rows_putNew_L70 : Nat → Nat → Int32 → Int64 → Int32 → Int32 → CwS → Option (Int32 × CwS)
  | 0, _, _, _, _, _, _ => none
  | n + 1, x0, x1, x2, x4, x5, st =>
    if ((0 : Int32)) ≤ (lg_cmp x5.toInt64 x2) then
      bR (j_Pile_put x0 x1 x4.toInt64 st) fun r16 st17 =>
      some (r16, st17)
    else
      ck (ix ((x4 * ((16 : Int32))) + x5) 192) <|
      j_Rows_putNew_L70 n x0 x1 x2 x4 (x5 + (1 : Int32)) (sL st 7 x0 (((x4 * ((16 : Int32))) + x5).toNatClampNeg) ((0 : Int64)))
def j_Rows_putNew (a0 : Nat) (a1 : Int32) (st : CwS) : Option (Int32 × CwS) :=
  bR (j_Pile_tookNumber a0 ((0 : Int32)) st) fun r1 st2 =>
  if r1 = ((0 : Int32)) then
    some ((4 : Int32), st2)
  else
    bR (j_Pile_took a0 ((0 : Int32)) st2) fun r5 st6 =>
    if ((0 : Int32)) ≤ (lg_cmp r5 ((0 : Int64))) then
      if (lg_cmp r5 ((16 : Int64))) ≤ ((0 : Int32)) then
        bR (j_Pile_freeRow a0 st6) fun r10 st11 =>
        if ((0 : Int32)) ≤ r10 then
          ck (ix r10 12) <|
          j_Rows_putNew_L70 17 a0 a1 r5 r10 ((0 : Int32)) (sI st11 20 a0 r10.toNatClampNeg r5.toInt32)
        else
          some ((11 : Int32), st11)
      else
        some ((6 : Int32), st6)
    else
      some ((5 : Int32), st6)
set_option maxHeartbeats 4000000 in
set_option maxRecDepth 100000 in
theorem c_Rows_putNew_L70 {l : Launch} {D : va_G} {A : Nat → Prop} {ad : Nat → Nat} {cA : Nat → ClassId} {tb0 tb1 : Nat} {p : Program} {e : Env} {s : State} {m : MethodId} {args : Array Value} {below : List Frame} {meth : Method} {c : Code} (S : CallFix p m c cX5_putNew 6 s args (wv yX5_putNew cX5_putNew 6 (some .int)) RX5) (hr : meth.sig.returnType = some .int) (hlocks : meth.locks = false) (hK : cwK D A ad cA tb0 tb1 s) (r : Int32) (st' : CwS) : ∀ (n : Nat) (x0 : Nat) (hx0 : x0 < 10) (x1 : Int32) (x2 : Int64) (x4 : Int32) (x5 : Int32) (st : CwS) (H : Heap) (locs : List Loc) (ls : Array Slot), j_Rows_putNew_L70 n x0 x1 x2 x4 x5 st = some (r, st') → cwO D A ad cA s st H locs → lv_has ls 6 [(0, .ref (ad (185 + 9 * x0))), (1, .int x1), (2, .long x2), (4, .int x4), (5, .int x5)] → W p l e ({ frames := 2, cells := 0, slots := 0, locals := 43 }) s m args below meth c H locs 0 0 (MQ below (cwQi D A ad cA tb0 tb1 r st') args s 0 0 A) (F0 m 70 ls []) := by
  obtain ⟨hx, hb, hml, hown, hts⟩ := S
  have hgw := fun (w : Cond) (h : w ∈ gwW) => hts w (List.mem_cons_of_mem _ h)
  have k9 := hgw _ w_44bf1df9
  have k15 := hgw _ w_642cd4aa
  have k19 := hgw _ w_b00e8dcd
  have k33 := hgw _ w_395c51ba
  intro n
  induction n with
  | zero =>
    intro x0 hx0 x1 x2 x4 x5 st H locs ls h hO hl
    cases h
  | succ n ih =>
    intro x0 hx0 x1 x2 x4 x5 st H locs ls h hO hl
    unfold j_Rows_putNew_L70 at h
    refine lv_iload hx hb dX5_putNew_70 (lv_at hl 4 rfl) ?_
    refine lv_i2l hx hb dX5_putNew_72 rfl ?_
    refine lv_lload_n hx hb dX5_putNew_73 rfl (lv_at hl 2 rfl) ?_
    refine W.lcmp hx hb dX5_putNew_74 ?_
    refine lv_if_ge (tgt := 98) hx hb dX5_putNew_75 (by decide) (fun c15 => ?_) (fun c15 => ?_)
    · have h := ite_t c15 h
      refine lv_aload_n hx hb dX5_putNew_98 rfl (lv_at hl 0 rfl) ?_
      refine gf_Rows_pile hx hb hgw iwRows hown hK hO hx0 k19 dX5_putNew_99 ?_
      refine lv_iload_n hx hb dX5_putNew_102 rfl (lv_at hl 1 rfl) ?_
      refine lv_iload hx hb dX5_putNew_103 (lv_at hl 3 rfl) ?_
      refine lv_i2l hx hb dX5_putNew_105 rfl ?_
      obtain ⟨r16, st17, h18, h⟩ := bR_some h
      refine cw_calli (va_runV (As := [.int x1, .long x4.toInt64]) (rest := []) ⟨hx, hb, hml, hown, hts⟩ (c_Pile_put l D A ad cA tb0 tb1 x0 hx0 x1 x4.toInt64 st r16 st17 h18) (cwV 2 hts (gw_V w_4dc44149 w_d8d501aa w_46b57ea6 w_76c797a4 w_54242bcb) rfl rfl rfl (by decide +kernel) ⟨Nat.le_of_ble_eq_true rfl, Nat.le_of_ble_eq_true rfl⟩) (cw_preV (k := 182 + 9 * x0) (ci := 4) hK hO rfl (by have := hx0; omega) (cc_Pile hx0)) rfl rfl hl.1 rfl (lv_room (Nat.le_of_ble_eq_true rfl)) dX5_putNew_106 ⟨Nat.zero_le _, Nat.zero_le _⟩) hO (fun H locs hO => ?_)
      obtain ⟨rfl, rfl⟩ := ret2 h; exact cw_iret hx hb hr hlocks hO dX5_putNew_109
    · have h := ite_f c15 h
      refine lv_aload_n hx hb dX5_putNew_78 rfl (lv_at hl 0 rfl) ?_
      refine gf_Rows_elements hx hb hgw iwRows hown hK hO hx0 k9 dX5_putNew_79 ?_
      refine lv_iload hx hb dX5_putNew_82 (lv_at hl 3 rfl) ?_
      refine lv_bipush (v := 16) hx hb dX5_putNew_84 (by decide) ?_
      refine lv_imul hx hb dX5_putNew_86 ?_
      refine lv_iload hx hb dX5_putNew_87 (lv_at hl 4 rfl) ?_
      refine lv_iadd hx hb dX5_putNew_89 ?_
      refine lv_lconst (v := 0) hx hb dX5_putNew_90 (by decide) ?_
      obtain ⟨hc19, h⟩ := ck_some h
      refine as_Elems hx hb hK hO hx0 hc19 dX5_putNew_91 (fun H locs hO => ?_)
      refine lv_iinc (v := x5 + (1 : Int32)) (lv' := [(5, .int (x5 + (1 : Int32))), (0, .ref (ad (185 + 9 * x0))), (1, .int x1), (2, .long x2), (4, .int x4)]) hx hb dX5_putNew_92 hl (k := 4) rfl rfl (by decide) rfl (fun ls hl => ?_)
      refine lv_goto (tgt := 70) hx hb dX5_putNew_95 (by decide) ?_
      exact ih x0 hx0 x1 x2 x4 (x5 + (1 : Int32)) _ _ _ _ h hO (lv_sub hl [1, 2, 3, 4, 0] rfl)
set_option maxHeartbeats 4000000 in
set_option maxRecDepth 100000 in
theorem c_Rows_putNew (l : Launch) (D : va_G) (A : Nat → Prop) (ad : Nat → Nat) (cA : Nat → ClassId) (tb0 tb1 : Nat) (a0 : Nat) (ha0 : a0 < 10) (a1 : Int32) (st : CwS) (r : Int32) (st' : CwS) (h : j_Rows_putNew a0 a1 st = some (r, st')) : Met l yX5_putNew (wv yX5_putNew cX5_putNew 6 (some .int)) ({ frames := 2, cells := 0, slots := 0, locals := 43 }) (va_Pc [.ref (ad (185 + 9 * a0)), .int a1] (cwU D A ad cA tb0 tb1 st)) (cwQi D A ad cA tb0 tb1 r st') 0 0 A := by
  refine Met.ofW (cc := cX5_putNew) (maxL := 6) (ret := some .int) (by decide) rfl ?_
  intro p e s m args below meth c s₁ B hml hv
  obtain ⟨rfl, hP, hK⟩ := hv
  have hx := B.exec
  have hb := B.bytes
  have hr := B.returns
  have hts := atoms_spec (ws := wv yX5_putNew cX5_putNew 6 (some .int)) B.pre
  have hown : s.vm.findClass RX5 = some m.cls := findClass_of_methodNamed B.named
  have hlocks := B.notSynchronized
  have hO : cwO D A ad cA s st s.heap [] := ⟨hP, va_S.rf⟩
  have hl := lv_entry ([.ref (ad (185 + 9 * a0)), .int a1]) (n := 6) (Nat.le_of_ble_eq_true rfl)
  rw [lg_entry_eq]
  generalize (lg_sl ([.ref (ad (185 + 9 * a0)), .int a1]) ++ List.replicate (6 - (lg_sl ([.ref (ad (185 + 9 * a0)), .int a1])).length) Slot.unset).toArray = ls at hl ⊢
  have hl : lv_has ls 6 [(0, .ref (ad (185 + 9 * a0))), (1, .int a1)] := hl
  have _h0 := hO
  have hgw := fun (w : Cond) (h : w ∈ gwW) => hts w (List.mem_cons_of_mem _ h)
  have k9 := hgw _ w_44bf1df9
  have k15 := hgw _ w_642cd4aa
  have k19 := hgw _ w_b00e8dcd
  have k33 := hgw _ w_395c51ba
  unfold j_Rows_putNew at h
  refine lv_aload_n hx hb dX5_putNew_0 rfl (lv_at hl 0 rfl) ?_
  refine gf_Rows_pile hx hb hgw iwRows hown hK hO ha0 k19 dX5_putNew_1 ?_
  refine lv_iconst (v := 0) hx hb dX5_putNew_4 (by decide) ?_
  obtain ⟨r1, st2, h3, h⟩ := bR_some h
  refine cw_calli (va_runV (As := [.int ((0 : Int32))]) (rest := []) ⟨hx, hb, hml, hown, hts⟩ (c_Pile_tookNumber l D A ad cA tb0 tb1 a0 ha0 ((0 : Int32)) st r1 st2 h3) (cwV 1 hts (gw_V w_3df059a5 w_710a0455 w_eea10879 w_76c797a4 w_f9f5f760) rfl rfl rfl (by decide +kernel) ⟨Nat.le_of_ble_eq_true rfl, Nat.le_of_ble_eq_true rfl⟩) (cw_preV (k := 182 + 9 * a0) (ci := 4) hK hO rfl (by have := ha0; omega) (cc_Pile ha0)) rfl rfl hl.1 rfl (lv_room (Nat.le_of_ble_eq_true rfl)) dX5_putNew_5 ⟨Nat.zero_le _, Nat.zero_le _⟩) hO (fun H locs hO => ?_)
  refine lv_if_ne (tgt := 13) hx hb dX5_putNew_8 (by decide) (fun c4 => ?_) (fun c4 => ?_)
  · have h := ite_f c4 h
    refine lv_aload_n hx hb dX5_putNew_13 rfl (lv_at hl 0 rfl) ?_
    refine gf_Rows_pile hx hb hgw iwRows hown hK hO ha0 k19 dX5_putNew_14 ?_
    refine lv_iconst (v := 0) hx hb dX5_putNew_17 (by decide) ?_
    obtain ⟨r5, st6, h7, h⟩ := bR_some h
    refine cw_calll (va_runV (As := [.int ((0 : Int32))]) (rest := []) ⟨hx, hb, hml, hown, hts⟩ (c_Pile_took l D A ad cA tb0 tb1 a0 ha0 ((0 : Int32)) st2 r5 st6 h7) (cwV 1 hts (gw_V w_6eb0be21 w_e50f7684 w_26b160a3 w_76c797a4 w_c905c078) rfl rfl rfl (by decide +kernel) ⟨Nat.le_of_ble_eq_true rfl, Nat.le_of_ble_eq_true rfl⟩) (cw_preV (k := 182 + 9 * a0) (ci := 4) hK hO rfl (by have := ha0; omega) (cc_Pile ha0)) rfl rfl hl.1 rfl (lv_room (Nat.le_of_ble_eq_true rfl)) dX5_putNew_18 ⟨Nat.zero_le _, Nat.zero_le _⟩) hO (fun H locs hO => ?_)
    refine lv_lstore_n (lv' := [(2, .long r5), (0, .ref (ad (185 + 9 * a0))), (1, .int a1)]) hx hb dX5_putNew_21 rfl hl (by decide) rfl (fun ls hl => ?_)
    refine lv_lload_n hx hb dX5_putNew_22 rfl (lv_at hl 0 rfl) ?_
    refine lv_lconst (v := 0) hx hb dX5_putNew_23 (by decide) ?_
    refine W.lcmp hx hb dX5_putNew_24 ?_
    refine lv_if_ge (tgt := 30) hx hb dX5_putNew_25 (by decide) (fun c8 => ?_) (fun c8 => ?_)
    · have h := ite_t c8 h
      refine lv_lload_n hx hb dX5_putNew_30 rfl (lv_at hl 0 rfl) ?_
      refine lv_ldc2 hx hb hown k33 dX5_putNew_31 ?_
      refine W.lcmp hx hb dX5_putNew_34 ?_
      refine lv_if_le (tgt := 41) hx hb dX5_putNew_35 (by decide) (fun c9 => ?_) (fun c9 => ?_)
      · have h := ite_t c9 h
        refine lv_aload_n hx hb dX5_putNew_41 rfl (lv_at hl 1 rfl) ?_
        refine gf_Rows_pile hx hb hgw iwRows hown hK hO ha0 k19 dX5_putNew_42 ?_
        obtain ⟨r10, st11, h12, h⟩ := bR_some h
        refine cw_calli (va_runV (As := []) (rest := []) ⟨hx, hb, hml, hown, hts⟩ (c_Pile_freeRow l D A ad cA tb0 tb1 a0 ha0 st6 r10 st11 h12) (cwV 0 hts (gw_V w_11bf5328 w_9d73c746 w_ac0097de w_76c797a4 w_fd454fa2) rfl rfl rfl (by decide +kernel) ⟨Nat.le_of_ble_eq_true rfl, Nat.le_of_ble_eq_true rfl⟩) (cw_preV (k := 182 + 9 * a0) (ci := 4) hK hO rfl (by have := ha0; omega) (cc_Pile ha0)) rfl rfl hl.1 rfl (lv_room (Nat.le_of_ble_eq_true rfl)) dX5_putNew_45 ⟨Nat.zero_le _, Nat.zero_le _⟩) hO (fun H locs hO => ?_)
        refine lv_istore (lv' := [(4, .int r10), (2, .long r5), (0, .ref (ad (185 + 9 * a0))), (1, .int a1)]) hx hb dX5_putNew_48 hl (by decide) rfl (fun ls hl => ?_)
        refine lv_iload hx hb dX5_putNew_50 (lv_at hl 0 rfl) ?_
        refine lv_if_ge (tgt := 58) hx hb dX5_putNew_52 (by decide) (fun c13 => ?_) (fun c13 => ?_)
        · have h := ite_t c13 h
          refine lv_aload_n hx hb dX5_putNew_58 rfl (lv_at hl 2 rfl) ?_
          refine gf_Rows_lengths hx hb hgw iwRows hown hK hO ha0 k15 dX5_putNew_59 ?_
          refine lv_iload hx hb dX5_putNew_62 (lv_at hl 0 rfl) ?_
          refine lv_lload_n hx hb dX5_putNew_64 rfl (lv_at hl 1 rfl) ?_
          refine lv_l2i hx hb dX5_putNew_65 rfl ?_
          obtain ⟨hc14, h⟩ := ck_some h
          refine as_Lens hx hb hK hO ha0 hc14 dX5_putNew_66 (fun H locs hO => ?_)
          refine lv_iconst (v := 0) hx hb dX5_putNew_67 (by decide) ?_
          refine lv_istore (lv' := [(5, .int ((0 : Int32))), (4, .int r10), (2, .long r5), (0, .ref (ad (185 + 9 * a0))), (1, .int a1)]) hx hb dX5_putNew_68 hl (by decide) rfl (fun ls hl => ?_)
          exact c_Rows_putNew_L70 ⟨hx, hb, hml, hown, hts⟩ hr hlocks hK r st' 17 a0 ha0 a1 r5 r10 ((0 : Int32)) _ _ _ _ h hO (lv_sub hl [3, 4, 2, 1, 0] rfl)
        · have h := ite_f c13 h
          refine lv_bipush (v := 11) hx hb dX5_putNew_55 (by decide) ?_
          obtain ⟨rfl, rfl⟩ := ret2 h; exact cw_iret hx hb hr hlocks hO dX5_putNew_57
      · have h := ite_f c9 h
        refine lv_bipush (v := 6) hx hb dX5_putNew_38 (by decide) ?_
        obtain ⟨rfl, rfl⟩ := ret2 h; exact cw_iret hx hb hr hlocks hO dX5_putNew_40
    · have h := ite_f c8 h
      refine lv_iconst (v := 5) hx hb dX5_putNew_28 (by decide) ?_
      obtain ⟨rfl, rfl⟩ := ret2 h; exact cw_iret hx hb hr hlocks hO dX5_putNew_29
  · have h := ite_t c4 h
    refine lv_iconst (v := 4) hx hb dX5_putNew_11 (by decide) ?_
    obtain ⟨rfl, rfl⟩ := ret2 h; exact cw_iret hx hb hr hlocks hO dX5_putNew_12
-- Rows putCopy
def j_Rows_putCopy (a0 : Nat) (a1 : Int32) (a2 : Nat) (a3 : Int64) (st : CwS) : Option (Int32 × CwS) :=
  bR (j_Pile_freeRow a0 st) fun r1 st2 =>
  if ((0 : Int32)) ≤ r1 then
    bR (j_Rows_lengthOf a2 a3 st2) fun r5 st6 =>
    ck (ix r1 12) <|
    ck (ix r1 12) <|
    if (gI (sI st6 20 a0 r1.toNatClampNeg r5) 20 a0 r1.toNatClampNeg) ≤ ((0 : Int32)) then
      bR (j_Pile_put a0 a1 r1.toInt64 (sI st6 20 a0 r1.toNatClampNeg r5)) fun r11 st12 =>
      some (r11, st12)
    else
      bR (j_Rows_placeOf a2 a3 ((0 : Int64)) (sI st6 20 a0 r1.toNatClampNeg r5)) fun r14 st15 =>
      bR (j_Rows_placeOf a0 r1.toInt64 ((0 : Int64)) st15) fun r17 st18 =>
      ck (ix r1 12) <|
      ck (cpk r14 r17 (gI st18 20 a0 r1.toNatClampNeg) 192 192) <|
      bR (j_Pile_put a0 a1 r1.toInt64 (cL st18 7 a2 r14.toNatClampNeg 7 a0 r17.toNatClampNeg ((gI st18 20 a0 r1.toNatClampNeg).toNatClampNeg))) fun r22 st23 =>
      some (r22, st23)
  else
    some ((11 : Int32), st2)
set_option maxHeartbeats 4000000 in
set_option maxRecDepth 100000 in
theorem c_Rows_putCopy (l : Launch) (D : va_G) (A : Nat → Prop) (ad : Nat → Nat) (cA : Nat → ClassId) (tb0 tb1 : Nat) (a0 : Nat) (ha0 : a0 < 10) (a1 : Int32) (a2 : Nat) (ha2 : a2 < 10) (a3 : Int64) (st : CwS) (r : Int32) (st' : CwS) (h : j_Rows_putCopy a0 a1 a2 a3 st = some (r, st')) : Met l yX5_putCopy (wv yX5_putCopy cX5_putCopy 7 (some .int)) ({ frames := 1, cells := 0, slots := 0, locals := 40 }) (va_Pc [.ref (ad (185 + 9 * a0)), .int a1, .ref (ad (185 + 9 * a2)), .long a3] (cwU D A ad cA tb0 tb1 st)) (cwQi D A ad cA tb0 tb1 r st') 0 0 A := by
  refine Met.ofW (cc := cX5_putCopy) (maxL := 7) (ret := some .int) (by decide) rfl ?_
  intro p e s m args below meth c s₁ B hml hv
  obtain ⟨rfl, hP, hK⟩ := hv
  have hx := B.exec
  have hb := B.bytes
  have hr := B.returns
  have hts := atoms_spec (ws := wv yX5_putCopy cX5_putCopy 7 (some .int)) B.pre
  have hown : s.vm.findClass RX5 = some m.cls := findClass_of_methodNamed B.named
  have hlocks := B.notSynchronized
  have hO : cwO D A ad cA s st s.heap [] := ⟨hP, va_S.rf⟩
  have hl := lv_entry ([.ref (ad (185 + 9 * a0)), .int a1, .ref (ad (185 + 9 * a2)), .long a3]) (n := 7) (Nat.le_of_ble_eq_true rfl)
  rw [lg_entry_eq]
  generalize (lg_sl ([.ref (ad (185 + 9 * a0)), .int a1, .ref (ad (185 + 9 * a2)), .long a3]) ++ List.replicate (7 - (lg_sl ([.ref (ad (185 + 9 * a0)), .int a1, .ref (ad (185 + 9 * a2)), .long a3])).length) Slot.unset).toArray = ls at hl ⊢
  have hl : lv_has ls 7 [(0, .ref (ad (185 + 9 * a0))), (1, .int a1), (2, .ref (ad (185 + 9 * a2))), (3, .long a3)] := hl
  have _h0 := hO
  have hgw := fun (w : Cond) (h : w ∈ gwW) => hts w (List.mem_cons_of_mem _ h)
  have k9 := hgw _ w_44bf1df9
  have k15 := hgw _ w_642cd4aa
  have k19 := hgw _ w_b00e8dcd
  have k51 := hgw _ w_2284ff03
  unfold j_Rows_putCopy at h
  refine lv_aload_n hx hb dX5_putCopy_0 rfl (lv_at hl 0 rfl) ?_
  refine gf_Rows_pile hx hb hgw iwRows hown hK hO ha0 k19 dX5_putCopy_1 ?_
  obtain ⟨r1, st2, h3, h⟩ := bR_some h
  refine cw_calli (va_runV (As := []) (rest := []) ⟨hx, hb, hml, hown, hts⟩ (c_Pile_freeRow l D A ad cA tb0 tb1 a0 ha0 st r1 st2 h3) (cwV 0 hts (gw_V w_11bf5328 w_9d73c746 w_ac0097de w_76c797a4 w_fd454fa2) rfl rfl rfl (by decide +kernel) ⟨Nat.le_of_ble_eq_true rfl, Nat.le_of_ble_eq_true rfl⟩) (cw_preV (k := 182 + 9 * a0) (ci := 4) hK hO rfl (by have := ha0; omega) (cc_Pile ha0)) rfl rfl hl.1 rfl (lv_room (Nat.le_of_ble_eq_true rfl)) dX5_putCopy_4 ⟨Nat.zero_le _, Nat.zero_le _⟩) hO (fun H locs hO => ?_)
  refine lv_istore (lv' := [(5, .int r1), (0, .ref (ad (185 + 9 * a0))), (1, .int a1), (2, .ref (ad (185 + 9 * a2))), (3, .long a3)]) hx hb dX5_putCopy_7 hl (by decide) rfl (fun ls hl => ?_)
  refine lv_iload hx hb dX5_putCopy_9 (lv_at hl 0 rfl) ?_
  refine lv_if_ge (tgt := 17) hx hb dX5_putCopy_11 (by decide) (fun c4 => ?_) (fun c4 => ?_)
  · have h := ite_t c4 h
    refine lv_aload_n hx hb dX5_putCopy_17 rfl (lv_at hl 1 rfl) ?_
    refine gf_Rows_lengths hx hb hgw iwRows hown hK hO ha0 k15 dX5_putCopy_18 ?_
    refine lv_iload hx hb dX5_putCopy_21 (lv_at hl 0 rfl) ?_
    refine lv_aload_n hx hb dX5_putCopy_23 rfl (lv_at hl 3 rfl) ?_
    refine lv_lload_n hx hb dX5_putCopy_24 rfl (lv_at hl 4 rfl) ?_
    obtain ⟨r5, st6, h7, h⟩ := bR_some h
    refine cw_calli (va_runV (As := [.long a3]) (rest := [.int r1, .ref (ad (187 + 9 * a0))]) ⟨hx, hb, hml, hown, hts⟩ (c_Rows_lengthOf l D A ad cA tb0 tb1 a2 ha2 a3 st2 r5 st6 h7) (cwV 1 hts (gw_V w_eb771c37 w_47a11451 w_e6548b4e w_8bdbd0d2 w_69ff08de) rfl rfl rfl (by decide +kernel) ⟨Nat.le_of_ble_eq_true rfl, Nat.le_of_ble_eq_true rfl⟩) (cw_preV (k := 185 + 9 * a2) (ci := 5) hK hO rfl (by have := ha2; omega) (cc_Rows ha2)) rfl rfl hl.1 rfl (lv_room (Nat.le_of_ble_eq_true rfl)) dX5_putCopy_25 ⟨Nat.zero_le _, Nat.zero_le _⟩) hO (fun H locs hO => ?_)
    obtain ⟨hc8, h⟩ := ck_some h
    refine as_Lens hx hb hK hO ha0 hc8 dX5_putCopy_28 (fun H locs hO => ?_)
    refine lv_aload_n hx hb dX5_putCopy_29 rfl (lv_at hl 1 rfl) ?_
    refine gf_Rows_lengths hx hb hgw iwRows hown hK hO ha0 k15 dX5_putCopy_30 ?_
    refine lv_iload hx hb dX5_putCopy_33 (lv_at hl 0 rfl) ?_
    obtain ⟨hc9, h⟩ := ck_some h
    refine al_Lens hx hb hK hO ha0 hc9 dX5_putCopy_35 ?_
    refine lv_if_le (tgt := 75) hx hb dX5_putCopy_36 (by decide) (fun c10 => ?_) (fun c10 => ?_)
    · have h := ite_t c10 h
      refine lv_aload_n hx hb dX5_putCopy_75 rfl (lv_at hl 1 rfl) ?_
      refine gf_Rows_pile hx hb hgw iwRows hown hK hO ha0 k19 dX5_putCopy_76 ?_
      refine lv_iload_n hx hb dX5_putCopy_79 rfl (lv_at hl 2 rfl) ?_
      refine lv_iload hx hb dX5_putCopy_80 (lv_at hl 0 rfl) ?_
      refine lv_i2l hx hb dX5_putCopy_82 rfl ?_
      obtain ⟨r11, st12, h13, h⟩ := bR_some h
      refine cw_calli (va_runV (As := [.int a1, .long r1.toInt64]) (rest := []) ⟨hx, hb, hml, hown, hts⟩ (c_Pile_put l D A ad cA tb0 tb1 a0 ha0 a1 r1.toInt64 (sI st6 20 a0 r1.toNatClampNeg r5) r11 st12 h13) (cwV 2 hts (gw_V w_4dc44149 w_d8d501aa w_46b57ea6 w_76c797a4 w_54242bcb) rfl rfl rfl (by decide +kernel) ⟨Nat.le_of_ble_eq_true rfl, Nat.le_of_ble_eq_true rfl⟩) (cw_preV (k := 182 + 9 * a0) (ci := 4) hK hO rfl (by have := ha0; omega) (cc_Pile ha0)) rfl rfl hl.1 rfl (lv_room (Nat.le_of_ble_eq_true rfl)) dX5_putCopy_83 ⟨Nat.zero_le _, Nat.zero_le _⟩) hO (fun H locs hO => ?_)
      obtain ⟨rfl, rfl⟩ := ret2 h; exact cw_iret hx hb hr hlocks hO dX5_putCopy_86
    · have h := ite_f c10 h
      refine lv_aload_n hx hb dX5_putCopy_39 rfl (lv_at hl 3 rfl) ?_
      refine lv_lload_n hx hb dX5_putCopy_40 rfl (lv_at hl 4 rfl) ?_
      refine lv_lconst (v := 0) hx hb dX5_putCopy_41 (by decide) ?_
      obtain ⟨r14, st15, h16, h⟩ := bR_some h
      refine cw_calli (va_runV (As := [.long a3, .long ((0 : Int64))]) (rest := []) ⟨hx, hb, hml, hown, hts⟩ (c_Rows_placeOf l D A ad cA tb0 tb1 a2 ha2 a3 ((0 : Int64)) (sI st6 20 a0 r1.toNatClampNeg r5) r14 st15 h16) (cwV 2 hts (gw_V w_ac50c630 w_512321e3 w_a4eb41e5 w_8bdbd0d2 w_5ae13e92) rfl rfl rfl (by decide +kernel) ⟨Nat.le_of_ble_eq_true rfl, Nat.le_of_ble_eq_true rfl⟩) (cw_preV (k := 185 + 9 * a2) (ci := 5) hK hO rfl (by have := ha2; omega) (cc_Rows ha2)) rfl rfl hl.1 rfl (lv_room (Nat.le_of_ble_eq_true rfl)) dX5_putCopy_42 ⟨Nat.zero_le _, Nat.zero_le _⟩) hO (fun H locs hO => ?_)
      refine lv_istore (lv' := [(6, .int r14), (5, .int r1), (0, .ref (ad (185 + 9 * a0))), (1, .int a1), (2, .ref (ad (185 + 9 * a2))), (3, .long a3)]) hx hb dX5_putCopy_45 hl (by decide) rfl (fun ls hl => ?_)
      refine lv_aload_n hx hb dX5_putCopy_47 rfl (lv_at hl 4 rfl) ?_
      refine gf_Rows_elements hx hb hgw iwRows hown hK hO ha2 k9 dX5_putCopy_48 ?_
      refine lv_iload hx hb dX5_putCopy_51 (lv_at hl 0 rfl) ?_
      refine lv_aload_n hx hb dX5_putCopy_53 rfl (lv_at hl 2 rfl) ?_
      refine gf_Rows_elements hx hb hgw iwRows hown hK hO ha0 k9 dX5_putCopy_54 ?_
      refine lv_aload_n hx hb dX5_putCopy_57 rfl (lv_at hl 2 rfl) ?_
      refine lv_iload hx hb dX5_putCopy_58 (lv_at hl 1 rfl) ?_
      refine lv_i2l hx hb dX5_putCopy_60 rfl ?_
      refine lv_lconst (v := 0) hx hb dX5_putCopy_61 (by decide) ?_
      obtain ⟨r17, st18, h19, h⟩ := bR_some h
      refine cw_calli (va_runV (As := [.long r1.toInt64, .long ((0 : Int64))]) (rest := [.ref (ad (186 + 9 * a0)), .int r14, .ref (ad (186 + 9 * a2))]) ⟨hx, hb, hml, hown, hts⟩ (c_Rows_placeOf l D A ad cA tb0 tb1 a0 ha0 r1.toInt64 ((0 : Int64)) st15 r17 st18 h19) (cwV 2 hts (gw_V w_ac50c630 w_512321e3 w_a4eb41e5 w_8bdbd0d2 w_5ae13e92) rfl rfl rfl (by decide +kernel) ⟨Nat.le_of_ble_eq_true rfl, Nat.le_of_ble_eq_true rfl⟩) (cw_preV (k := 185 + 9 * a0) (ci := 5) hK hO rfl (by have := ha0; omega) (cc_Rows ha0)) rfl rfl hl.1 rfl (lv_room (Nat.le_of_ble_eq_true rfl)) dX5_putCopy_62 ⟨Nat.zero_le _, Nat.zero_le _⟩) hO (fun H locs hO => ?_)
      refine lv_aload_n hx hb dX5_putCopy_65 rfl (lv_at hl 2 rfl) ?_
      refine gf_Rows_lengths hx hb hgw iwRows hown hK hO ha0 k15 dX5_putCopy_66 ?_
      refine lv_iload hx hb dX5_putCopy_69 (lv_at hl 1 rfl) ?_
      obtain ⟨hc20, h⟩ := ck_some h
      refine al_Lens hx hb hK hO ha0 hc20 dX5_putCopy_71 ?_
      obtain ⟨hc21, h⟩ := ck_some h
      refine ac_Elems_Elems hx hb (by rw [hml]; exact hl.1.symm) hown k51 (hgw _ w_a648c8f7) (hgw _ w_410d49e2) (hgw _ w_4260ffab) hK hO ha2 ha0 hc21 (Nat.le_of_ble_eq_true rfl) (Nat.le_of_ble_eq_true rfl) dX5_putCopy_72 (fun H locs hO => ?_)
      refine lv_aload_n hx hb dX5_putCopy_75 rfl (lv_at hl 2 rfl) ?_
      refine gf_Rows_pile hx hb hgw iwRows hown hK hO ha0 k19 dX5_putCopy_76 ?_
      refine lv_iload_n hx hb dX5_putCopy_79 rfl (lv_at hl 3 rfl) ?_
      refine lv_iload hx hb dX5_putCopy_80 (lv_at hl 1 rfl) ?_
      refine lv_i2l hx hb dX5_putCopy_82 rfl ?_
      obtain ⟨r22, st23, h24, h⟩ := bR_some h
      refine cw_calli (va_runV (As := [.int a1, .long r1.toInt64]) (rest := []) ⟨hx, hb, hml, hown, hts⟩ (c_Pile_put l D A ad cA tb0 tb1 a0 ha0 a1 r1.toInt64 (cL st18 7 a2 r14.toNatClampNeg 7 a0 r17.toNatClampNeg ((gI st18 20 a0 r1.toNatClampNeg).toNatClampNeg)) r22 st23 h24) (cwV 2 hts (gw_V w_4dc44149 w_d8d501aa w_46b57ea6 w_76c797a4 w_54242bcb) rfl rfl rfl (by decide +kernel) ⟨Nat.le_of_ble_eq_true rfl, Nat.le_of_ble_eq_true rfl⟩) (cw_preV (k := 182 + 9 * a0) (ci := 4) hK hO rfl (by have := ha0; omega) (cc_Pile ha0)) rfl rfl hl.1 rfl (lv_room (Nat.le_of_ble_eq_true rfl)) dX5_putCopy_83 ⟨Nat.zero_le _, Nat.zero_le _⟩) hO (fun H locs hO => ?_)
      obtain ⟨rfl, rfl⟩ := ret2 h; exact cw_iret hx hb hr hlocks hO dX5_putCopy_86
  · have h := ite_f c4 h
    refine lv_bipush (v := 11) hx hb dX5_putCopy_14 (by decide) ?_
    obtain ⟨rfl, rfl⟩ := ret2 h; exact cw_iret hx hb hr hlocks hO dX5_putCopy_16
-- Rows putElement
def j_Rows_putElement (a0 : Nat) (a1 : Int32) (st : CwS) : Option (Int32 × CwS) :=
  bR (j_Pile_tookNumber a0 ((0 : Int32)) st) fun r1 st2 =>
  if r1 = ((0 : Int32)) then
    some ((4 : Int32), st2)
  else
    bR (j_Pile_took a0 ((0 : Int32)) st2) fun r5 st6 =>
    bR (j_Pile_took a0 ((1 : Int32)) st6) fun r8 st9 =>
    bR (j_Pile_tookKind a0 ((1 : Int32)) st9) fun r11 st12 =>
    bR (j_Rows_elementFailure a0 a1 r11 r8 r5 st12) fun r14 st15 =>
    if r14 = ((0 : Int32)) then
      bR (j_Rows_placeOf a0 r8 r5 st15) fun r18 st19 =>
      ck (ix r18 192) <|
      bR (j_Pile_putNumber a0 (gL st19 7 a0 r18.toNatClampNeg) st19) fun r22 st23 =>
      some (r22, st23)
    else
      some (r14, st15)
set_option maxHeartbeats 4000000 in
set_option maxRecDepth 100000 in
theorem c_Rows_putElement (l : Launch) (D : va_G) (A : Nat → Prop) (ad : Nat → Nat) (cA : Nat → ClassId) (tb0 tb1 : Nat) (a0 : Nat) (ha0 : a0 < 10) (a1 : Int32) (st : CwS) (r : Int32) (st' : CwS) (h : j_Rows_putElement a0 a1 st = some (r, st')) : Met l yX5_putElement (wv yX5_putElement cX5_putElement 7 (some .int)) ({ frames := 2, cells := 0, slots := 0, locals := 48 }) (va_Pc [.ref (ad (185 + 9 * a0)), .int a1] (cwU D A ad cA tb0 tb1 st)) (cwQi D A ad cA tb0 tb1 r st') 0 0 A := by
  refine Met.ofW (cc := cX5_putElement) (maxL := 7) (ret := some .int) (by decide) rfl ?_
  intro p e s m args below meth c s₁ B hml hv
  obtain ⟨rfl, hP, hK⟩ := hv
  have hx := B.exec
  have hb := B.bytes
  have hr := B.returns
  have hts := atoms_spec (ws := wv yX5_putElement cX5_putElement 7 (some .int)) B.pre
  have hown : s.vm.findClass RX5 = some m.cls := findClass_of_methodNamed B.named
  have hlocks := B.notSynchronized
  have hO : cwO D A ad cA s st s.heap [] := ⟨hP, va_S.rf⟩
  have hl := lv_entry ([.ref (ad (185 + 9 * a0)), .int a1]) (n := 7) (Nat.le_of_ble_eq_true rfl)
  rw [lg_entry_eq]
  generalize (lg_sl ([.ref (ad (185 + 9 * a0)), .int a1]) ++ List.replicate (7 - (lg_sl ([.ref (ad (185 + 9 * a0)), .int a1])).length) Slot.unset).toArray = ls at hl ⊢
  have hl : lv_has ls 7 [(0, .ref (ad (185 + 9 * a0))), (1, .int a1)] := hl
  have _h0 := hO
  have hgw := fun (w : Cond) (h : w ∈ gwW) => hts w (List.mem_cons_of_mem _ h)
  have k9 := hgw _ w_44bf1df9
  have k19 := hgw _ w_b00e8dcd
  unfold j_Rows_putElement at h
  refine lv_aload_n hx hb dX5_putElement_0 rfl (lv_at hl 0 rfl) ?_
  refine gf_Rows_pile hx hb hgw iwRows hown hK hO ha0 k19 dX5_putElement_1 ?_
  refine lv_iconst (v := 0) hx hb dX5_putElement_4 (by decide) ?_
  obtain ⟨r1, st2, h3, h⟩ := bR_some h
  refine cw_calli (va_runV (As := [.int ((0 : Int32))]) (rest := []) ⟨hx, hb, hml, hown, hts⟩ (c_Pile_tookNumber l D A ad cA tb0 tb1 a0 ha0 ((0 : Int32)) st r1 st2 h3) (cwV 1 hts (gw_V w_3df059a5 w_710a0455 w_eea10879 w_76c797a4 w_f9f5f760) rfl rfl rfl (by decide +kernel) ⟨Nat.le_of_ble_eq_true rfl, Nat.le_of_ble_eq_true rfl⟩) (cw_preV (k := 182 + 9 * a0) (ci := 4) hK hO rfl (by have := ha0; omega) (cc_Pile ha0)) rfl rfl hl.1 rfl (lv_room (Nat.le_of_ble_eq_true rfl)) dX5_putElement_5 ⟨Nat.zero_le _, Nat.zero_le _⟩) hO (fun H locs hO => ?_)
  refine lv_if_ne (tgt := 13) hx hb dX5_putElement_8 (by decide) (fun c4 => ?_) (fun c4 => ?_)
  · have h := ite_f c4 h
    refine lv_aload_n hx hb dX5_putElement_13 rfl (lv_at hl 0 rfl) ?_
    refine gf_Rows_pile hx hb hgw iwRows hown hK hO ha0 k19 dX5_putElement_14 ?_
    refine lv_iconst (v := 0) hx hb dX5_putElement_17 (by decide) ?_
    obtain ⟨r5, st6, h7, h⟩ := bR_some h
    refine cw_calll (va_runV (As := [.int ((0 : Int32))]) (rest := []) ⟨hx, hb, hml, hown, hts⟩ (c_Pile_took l D A ad cA tb0 tb1 a0 ha0 ((0 : Int32)) st2 r5 st6 h7) (cwV 1 hts (gw_V w_6eb0be21 w_e50f7684 w_26b160a3 w_76c797a4 w_c905c078) rfl rfl rfl (by decide +kernel) ⟨Nat.le_of_ble_eq_true rfl, Nat.le_of_ble_eq_true rfl⟩) (cw_preV (k := 182 + 9 * a0) (ci := 4) hK hO rfl (by have := ha0; omega) (cc_Pile ha0)) rfl rfl hl.1 rfl (lv_room (Nat.le_of_ble_eq_true rfl)) dX5_putElement_18 ⟨Nat.zero_le _, Nat.zero_le _⟩) hO (fun H locs hO => ?_)
    refine lv_lstore_n (lv' := [(2, .long r5), (0, .ref (ad (185 + 9 * a0))), (1, .int a1)]) hx hb dX5_putElement_21 rfl hl (by decide) rfl (fun ls hl => ?_)
    refine lv_aload_n hx hb dX5_putElement_22 rfl (lv_at hl 1 rfl) ?_
    refine gf_Rows_pile hx hb hgw iwRows hown hK hO ha0 k19 dX5_putElement_23 ?_
    refine lv_iconst (v := 1) hx hb dX5_putElement_26 (by decide) ?_
    obtain ⟨r8, st9, h10, h⟩ := bR_some h
    refine cw_calll (va_runV (As := [.int ((1 : Int32))]) (rest := []) ⟨hx, hb, hml, hown, hts⟩ (c_Pile_took l D A ad cA tb0 tb1 a0 ha0 ((1 : Int32)) st6 r8 st9 h10) (cwV 1 hts (gw_V w_6eb0be21 w_e50f7684 w_26b160a3 w_76c797a4 w_c905c078) rfl rfl rfl (by decide +kernel) ⟨Nat.le_of_ble_eq_true rfl, Nat.le_of_ble_eq_true rfl⟩) (cw_preV (k := 182 + 9 * a0) (ci := 4) hK hO rfl (by have := ha0; omega) (cc_Pile ha0)) rfl rfl hl.1 rfl (lv_room (Nat.le_of_ble_eq_true rfl)) dX5_putElement_27 ⟨Nat.zero_le _, Nat.zero_le _⟩) hO (fun H locs hO => ?_)
    refine lv_lstore (lv' := [(4, .long r8), (2, .long r5), (0, .ref (ad (185 + 9 * a0))), (1, .int a1)]) hx hb dX5_putElement_30 hl (by decide) rfl (fun ls hl => ?_)
    refine lv_aload_n hx hb dX5_putElement_32 rfl (lv_at hl 2 rfl) ?_
    refine lv_iload_n hx hb dX5_putElement_33 rfl (lv_at hl 3 rfl) ?_
    refine lv_aload_n hx hb dX5_putElement_34 rfl (lv_at hl 2 rfl) ?_
    refine gf_Rows_pile hx hb hgw iwRows hown hK hO ha0 k19 dX5_putElement_35 ?_
    refine lv_iconst (v := 1) hx hb dX5_putElement_38 (by decide) ?_
    obtain ⟨r11, st12, h13, h⟩ := bR_some h
    refine cw_calli (va_runV (As := [.int ((1 : Int32))]) (rest := [.int a1, .ref (ad (185 + 9 * a0))]) ⟨hx, hb, hml, hown, hts⟩ (c_Pile_tookKind l D A ad cA tb0 tb1 a0 ha0 ((1 : Int32)) st9 r11 st12 h13) (cwV 1 hts (gw_V w_cdb175cb w_5c9fe01c w_ceab1f00 w_76c797a4 w_72af167e) rfl rfl rfl (by decide +kernel) ⟨Nat.le_of_ble_eq_true rfl, Nat.le_of_ble_eq_true rfl⟩) (cw_preV (k := 182 + 9 * a0) (ci := 4) hK hO rfl (by have := ha0; omega) (cc_Pile ha0)) rfl rfl hl.1 rfl (lv_room (Nat.le_of_ble_eq_true rfl)) dX5_putElement_39 ⟨Nat.zero_le _, Nat.zero_le _⟩) hO (fun H locs hO => ?_)
    refine lv_lload hx hb dX5_putElement_42 (lv_at hl 0 rfl) ?_
    refine lv_lload_n hx hb dX5_putElement_44 rfl (lv_at hl 1 rfl) ?_
    obtain ⟨r14, st15, h16, h⟩ := bR_some h
    refine cw_calli (va_runV (As := [.int a1, .int r11, .long r8, .long r5]) (rest := []) ⟨hx, hb, hml, hown, hts⟩ (c_Rows_elementFailure l D A ad cA tb0 tb1 a0 ha0 a1 r11 r8 r5 st12 r14 st15 h16) (cwV 4 hts (gw_V w_c19e7088 w_09edf06d w_5790b627 w_8bdbd0d2 w_cb51ae7a) rfl rfl rfl (by decide +kernel) ⟨Nat.le_of_ble_eq_true rfl, Nat.le_of_ble_eq_true rfl⟩) (cw_preV (k := 185 + 9 * a0) (ci := 5) hK hO rfl (by have := ha0; omega) (cc_Rows ha0)) rfl rfl hl.1 rfl (lv_room (Nat.le_of_ble_eq_true rfl)) dX5_putElement_45 ⟨Nat.zero_le _, Nat.zero_le _⟩) hO (fun H locs hO => ?_)
    refine lv_istore (lv' := [(6, .int r14), (4, .long r8), (2, .long r5), (0, .ref (ad (185 + 9 * a0))), (1, .int a1)]) hx hb dX5_putElement_48 hl (by decide) rfl (fun ls hl => ?_)
    refine lv_iload hx hb dX5_putElement_50 (lv_at hl 0 rfl) ?_
    refine lv_if_ne (tgt := 77) hx hb dX5_putElement_52 (by decide) (fun c17 => ?_) (fun c17 => ?_)
    · have h := ite_f c17 h
      refine lv_iload hx hb dX5_putElement_77 (lv_at hl 0 rfl) ?_
      obtain ⟨rfl, rfl⟩ := ret2 h; exact cw_iret hx hb hr hlocks hO dX5_putElement_79
    · have h := ite_t c17 h
      refine lv_aload_n hx hb dX5_putElement_55 rfl (lv_at hl 3 rfl) ?_
      refine gf_Rows_pile hx hb hgw iwRows hown hK hO ha0 k19 dX5_putElement_56 ?_
      refine lv_aload_n hx hb dX5_putElement_59 rfl (lv_at hl 3 rfl) ?_
      refine gf_Rows_elements hx hb hgw iwRows hown hK hO ha0 k9 dX5_putElement_60 ?_
      refine lv_aload_n hx hb dX5_putElement_63 rfl (lv_at hl 3 rfl) ?_
      refine lv_lload hx hb dX5_putElement_64 (lv_at hl 1 rfl) ?_
      refine lv_lload_n hx hb dX5_putElement_66 rfl (lv_at hl 2 rfl) ?_
      obtain ⟨r18, st19, h20, h⟩ := bR_some h
      refine cw_calli (va_runV (As := [.long r8, .long r5]) (rest := [.ref (ad (186 + 9 * a0)), .ref (ad (182 + 9 * a0))]) ⟨hx, hb, hml, hown, hts⟩ (c_Rows_placeOf l D A ad cA tb0 tb1 a0 ha0 r8 r5 st15 r18 st19 h20) (cwV 2 hts (gw_V w_ac50c630 w_512321e3 w_a4eb41e5 w_8bdbd0d2 w_5ae13e92) rfl rfl rfl (by decide +kernel) ⟨Nat.le_of_ble_eq_true rfl, Nat.le_of_ble_eq_true rfl⟩) (cw_preV (k := 185 + 9 * a0) (ci := 5) hK hO rfl (by have := ha0; omega) (cc_Rows ha0)) rfl rfl hl.1 rfl (lv_room (Nat.le_of_ble_eq_true rfl)) dX5_putElement_67 ⟨Nat.zero_le _, Nat.zero_le _⟩) hO (fun H locs hO => ?_)
      obtain ⟨hc21, h⟩ := ck_some h
      refine al_Elems hx hb hK hO ha0 hc21 dX5_putElement_70 ?_
      obtain ⟨r22, st23, h24, h⟩ := bR_some h
      refine cw_calli (va_runV (As := [.long (gL st19 7 a0 r18.toNatClampNeg)]) (rest := []) ⟨hx, hb, hml, hown, hts⟩ (c_Pile_putNumber l D A ad cA tb0 tb1 a0 ha0 (gL st19 7 a0 r18.toNatClampNeg) st19 r22 st23 h24) (cwV 1 hts (gw_V w_81d1523b w_34c9ad22 w_9e5e849e w_76c797a4 w_03086df0) rfl rfl rfl (by decide +kernel) ⟨Nat.le_of_ble_eq_true rfl, Nat.le_of_ble_eq_true rfl⟩) (cw_preV (k := 182 + 9 * a0) (ci := 4) hK hO rfl (by have := ha0; omega) (cc_Pile ha0)) rfl rfl hl.1 rfl (lv_room (Nat.le_of_ble_eq_true rfl)) dX5_putElement_71 ⟨Nat.zero_le _, Nat.zero_le _⟩) hO (fun H locs hO => ?_)
      refine lv_goto (tgt := 79) hx hb dX5_putElement_74 (by decide) ?_
      obtain ⟨rfl, rfl⟩ := ret2 h; exact cw_iret hx hb hr hlocks hO dX5_putElement_79
  · have h := ite_t c4 h
    refine lv_iconst (v := 4) hx hb dX5_putElement_11 (by decide) ?_
    obtain ⟨rfl, rfl⟩ := ret2 h; exact cw_iret hx hb hr hlocks hO dX5_putElement_12
-- Rows changeElement
def j_Rows_changeElement (a0 : Nat) (a1 : Int32) (st : CwS) : Option (Int32 × CwS) :=
  bR (j_Pile_tookNumber a0 ((0 : Int32)) st) fun r1 st2 =>
  if r1 = ((0 : Int32)) then
    some ((4 : Int32), st2)
  else
    bR (j_Pile_tookNumber a0 ((1 : Int32)) st2) fun r5 st6 =>
    if r5 = ((0 : Int32)) then
      some ((4 : Int32), st6)
    else
      bR (j_Pile_took a0 ((0 : Int32)) st6) fun r9 st10 =>
      bR (j_Pile_took a0 ((1 : Int32)) st10) fun r12 st13 =>
      bR (j_Pile_took a0 ((2 : Int32)) st13) fun r15 st16 =>
      bR (j_Pile_tookKind a0 ((2 : Int32)) st16) fun r18 st19 =>
      bR (j_Rows_elementFailure a0 a1 r18 r15 r12 st19) fun r21 st22 =>
      if r21 = ((0 : Int32)) then
        bR (j_Rows_placeOf a0 r15 r12 st22) fun r25 st26 =>
        if a1 = ((2 : Int32)) then
          ck (ix r25 192) <|
          some (r21, sL st26 7 a0 r25.toNatClampNeg r9.toInt32.toInt64)
        else
          ck (ix r25 192) <|
          some (r21, sL st26 7 a0 r25.toNatClampNeg r9)
      else
        some (r21, st22)
set_option maxHeartbeats 4000000 in
set_option maxRecDepth 100000 in
theorem c_Rows_changeElement (l : Launch) (D : va_G) (A : Nat → Prop) (ad : Nat → Nat) (cA : Nat → ClassId) (tb0 tb1 : Nat) (a0 : Nat) (ha0 : a0 < 10) (a1 : Int32) (st : CwS) (r : Int32) (st' : CwS) (h : j_Rows_changeElement a0 a1 st = some (r, st')) : Met l yX5_changeElement (wv yX5_changeElement cX5_changeElement 9 (some .int)) ({ frames := 2, cells := 0, slots := 0, locals := 48 }) (va_Pc [.ref (ad (185 + 9 * a0)), .int a1] (cwU D A ad cA tb0 tb1 st)) (cwQi D A ad cA tb0 tb1 r st') 0 0 A := by
  refine Met.ofW (cc := cX5_changeElement) (maxL := 9) (ret := some .int) (by decide) rfl ?_
  intro p e s m args below meth c s₁ B hml hv
  obtain ⟨rfl, hP, hK⟩ := hv
  have hx := B.exec
  have hb := B.bytes
  have hr := B.returns
  have hts := atoms_spec (ws := wv yX5_changeElement cX5_changeElement 9 (some .int)) B.pre
  have hown : s.vm.findClass RX5 = some m.cls := findClass_of_methodNamed B.named
  have hlocks := B.notSynchronized
  have hO : cwO D A ad cA s st s.heap [] := ⟨hP, va_S.rf⟩
  have hl := lv_entry ([.ref (ad (185 + 9 * a0)), .int a1]) (n := 9) (Nat.le_of_ble_eq_true rfl)
  rw [lg_entry_eq]
  generalize (lg_sl ([.ref (ad (185 + 9 * a0)), .int a1]) ++ List.replicate (9 - (lg_sl ([.ref (ad (185 + 9 * a0)), .int a1])).length) Slot.unset).toArray = ls at hl ⊢
  have hl : lv_has ls 9 [(0, .ref (ad (185 + 9 * a0))), (1, .int a1)] := hl
  have _h0 := hO
  have hgw := fun (w : Cond) (h : w ∈ gwW) => hts w (List.mem_cons_of_mem _ h)
  have k9 := hgw _ w_44bf1df9
  have k19 := hgw _ w_b00e8dcd
  unfold j_Rows_changeElement at h
  refine lv_aload_n hx hb dX5_changeElement_0 rfl (lv_at hl 0 rfl) ?_
  refine gf_Rows_pile hx hb hgw iwRows hown hK hO ha0 k19 dX5_changeElement_1 ?_
  refine lv_iconst (v := 0) hx hb dX5_changeElement_4 (by decide) ?_
  obtain ⟨r1, st2, h3, h⟩ := bR_some h
  refine cw_calli (va_runV (As := [.int ((0 : Int32))]) (rest := []) ⟨hx, hb, hml, hown, hts⟩ (c_Pile_tookNumber l D A ad cA tb0 tb1 a0 ha0 ((0 : Int32)) st r1 st2 h3) (cwV 1 hts (gw_V w_3df059a5 w_710a0455 w_eea10879 w_76c797a4 w_f9f5f760) rfl rfl rfl (by decide +kernel) ⟨Nat.le_of_ble_eq_true rfl, Nat.le_of_ble_eq_true rfl⟩) (cw_preV (k := 182 + 9 * a0) (ci := 4) hK hO rfl (by have := ha0; omega) (cc_Pile ha0)) rfl rfl hl.1 rfl (lv_room (Nat.le_of_ble_eq_true rfl)) dX5_changeElement_5 ⟨Nat.zero_le _, Nat.zero_le _⟩) hO (fun H locs hO => ?_)
  refine lv_if_eq (tgt := 22) hx hb dX5_changeElement_8 (by decide) (fun c4 => ?_) (fun c4 => ?_)
  · have h := ite_t c4 h
    refine lv_iconst (v := 4) hx hb dX5_changeElement_22 (by decide) ?_
    obtain ⟨rfl, rfl⟩ := ret2 h; exact cw_iret hx hb hr hlocks hO dX5_changeElement_23
  · have h := ite_f c4 h
    refine lv_aload_n hx hb dX5_changeElement_11 rfl (lv_at hl 0 rfl) ?_
    refine gf_Rows_pile hx hb hgw iwRows hown hK hO ha0 k19 dX5_changeElement_12 ?_
    refine lv_iconst (v := 1) hx hb dX5_changeElement_15 (by decide) ?_
    obtain ⟨r5, st6, h7, h⟩ := bR_some h
    refine cw_calli (va_runV (As := [.int ((1 : Int32))]) (rest := []) ⟨hx, hb, hml, hown, hts⟩ (c_Pile_tookNumber l D A ad cA tb0 tb1 a0 ha0 ((1 : Int32)) st2 r5 st6 h7) (cwV 1 hts (gw_V w_3df059a5 w_710a0455 w_eea10879 w_76c797a4 w_f9f5f760) rfl rfl rfl (by decide +kernel) ⟨Nat.le_of_ble_eq_true rfl, Nat.le_of_ble_eq_true rfl⟩) (cw_preV (k := 182 + 9 * a0) (ci := 4) hK hO rfl (by have := ha0; omega) (cc_Pile ha0)) rfl rfl hl.1 rfl (lv_room (Nat.le_of_ble_eq_true rfl)) dX5_changeElement_16 ⟨Nat.zero_le _, Nat.zero_le _⟩) hO (fun H locs hO => ?_)
    refine lv_if_ne (tgt := 24) hx hb dX5_changeElement_19 (by decide) (fun c8 => ?_) (fun c8 => ?_)
    · have h := ite_f c8 h
      refine lv_aload_n hx hb dX5_changeElement_24 rfl (lv_at hl 0 rfl) ?_
      refine gf_Rows_pile hx hb hgw iwRows hown hK hO ha0 k19 dX5_changeElement_25 ?_
      refine lv_iconst (v := 0) hx hb dX5_changeElement_28 (by decide) ?_
      obtain ⟨r9, st10, h11, h⟩ := bR_some h
      refine cw_calll (va_runV (As := [.int ((0 : Int32))]) (rest := []) ⟨hx, hb, hml, hown, hts⟩ (c_Pile_took l D A ad cA tb0 tb1 a0 ha0 ((0 : Int32)) st6 r9 st10 h11) (cwV 1 hts (gw_V w_6eb0be21 w_e50f7684 w_26b160a3 w_76c797a4 w_c905c078) rfl rfl rfl (by decide +kernel) ⟨Nat.le_of_ble_eq_true rfl, Nat.le_of_ble_eq_true rfl⟩) (cw_preV (k := 182 + 9 * a0) (ci := 4) hK hO rfl (by have := ha0; omega) (cc_Pile ha0)) rfl rfl hl.1 rfl (lv_room (Nat.le_of_ble_eq_true rfl)) dX5_changeElement_29 ⟨Nat.zero_le _, Nat.zero_le _⟩) hO (fun H locs hO => ?_)
      refine lv_lstore_n (lv' := [(2, .long r9), (0, .ref (ad (185 + 9 * a0))), (1, .int a1)]) hx hb dX5_changeElement_32 rfl hl (by decide) rfl (fun ls hl => ?_)
      refine lv_aload_n hx hb dX5_changeElement_33 rfl (lv_at hl 1 rfl) ?_
      refine gf_Rows_pile hx hb hgw iwRows hown hK hO ha0 k19 dX5_changeElement_34 ?_
      refine lv_iconst (v := 1) hx hb dX5_changeElement_37 (by decide) ?_
      obtain ⟨r12, st13, h14, h⟩ := bR_some h
      refine cw_calll (va_runV (As := [.int ((1 : Int32))]) (rest := []) ⟨hx, hb, hml, hown, hts⟩ (c_Pile_took l D A ad cA tb0 tb1 a0 ha0 ((1 : Int32)) st10 r12 st13 h14) (cwV 1 hts (gw_V w_6eb0be21 w_e50f7684 w_26b160a3 w_76c797a4 w_c905c078) rfl rfl rfl (by decide +kernel) ⟨Nat.le_of_ble_eq_true rfl, Nat.le_of_ble_eq_true rfl⟩) (cw_preV (k := 182 + 9 * a0) (ci := 4) hK hO rfl (by have := ha0; omega) (cc_Pile ha0)) rfl rfl hl.1 rfl (lv_room (Nat.le_of_ble_eq_true rfl)) dX5_changeElement_38 ⟨Nat.zero_le _, Nat.zero_le _⟩) hO (fun H locs hO => ?_)
      refine lv_lstore (lv' := [(4, .long r12), (2, .long r9), (0, .ref (ad (185 + 9 * a0))), (1, .int a1)]) hx hb dX5_changeElement_41 hl (by decide) rfl (fun ls hl => ?_)
      refine lv_aload_n hx hb dX5_changeElement_43 rfl (lv_at hl 2 rfl) ?_
      refine gf_Rows_pile hx hb hgw iwRows hown hK hO ha0 k19 dX5_changeElement_44 ?_
      refine lv_iconst (v := 2) hx hb dX5_changeElement_47 (by decide) ?_
      obtain ⟨r15, st16, h17, h⟩ := bR_some h
      refine cw_calll (va_runV (As := [.int ((2 : Int32))]) (rest := []) ⟨hx, hb, hml, hown, hts⟩ (c_Pile_took l D A ad cA tb0 tb1 a0 ha0 ((2 : Int32)) st13 r15 st16 h17) (cwV 1 hts (gw_V w_6eb0be21 w_e50f7684 w_26b160a3 w_76c797a4 w_c905c078) rfl rfl rfl (by decide +kernel) ⟨Nat.le_of_ble_eq_true rfl, Nat.le_of_ble_eq_true rfl⟩) (cw_preV (k := 182 + 9 * a0) (ci := 4) hK hO rfl (by have := ha0; omega) (cc_Pile ha0)) rfl rfl hl.1 rfl (lv_room (Nat.le_of_ble_eq_true rfl)) dX5_changeElement_48 ⟨Nat.zero_le _, Nat.zero_le _⟩) hO (fun H locs hO => ?_)
      refine lv_lstore (lv' := [(6, .long r15), (4, .long r12), (2, .long r9), (0, .ref (ad (185 + 9 * a0))), (1, .int a1)]) hx hb dX5_changeElement_51 hl (by decide) rfl (fun ls hl => ?_)
      refine lv_aload_n hx hb dX5_changeElement_53 rfl (lv_at hl 3 rfl) ?_
      refine lv_iload_n hx hb dX5_changeElement_54 rfl (lv_at hl 4 rfl) ?_
      refine lv_aload_n hx hb dX5_changeElement_55 rfl (lv_at hl 3 rfl) ?_
      refine gf_Rows_pile hx hb hgw iwRows hown hK hO ha0 k19 dX5_changeElement_56 ?_
      refine lv_iconst (v := 2) hx hb dX5_changeElement_59 (by decide) ?_
      obtain ⟨r18, st19, h20, h⟩ := bR_some h
      refine cw_calli (va_runV (As := [.int ((2 : Int32))]) (rest := [.int a1, .ref (ad (185 + 9 * a0))]) ⟨hx, hb, hml, hown, hts⟩ (c_Pile_tookKind l D A ad cA tb0 tb1 a0 ha0 ((2 : Int32)) st16 r18 st19 h20) (cwV 1 hts (gw_V w_cdb175cb w_5c9fe01c w_ceab1f00 w_76c797a4 w_72af167e) rfl rfl rfl (by decide +kernel) ⟨Nat.le_of_ble_eq_true rfl, Nat.le_of_ble_eq_true rfl⟩) (cw_preV (k := 182 + 9 * a0) (ci := 4) hK hO rfl (by have := ha0; omega) (cc_Pile ha0)) rfl rfl hl.1 rfl (lv_room (Nat.le_of_ble_eq_true rfl)) dX5_changeElement_60 ⟨Nat.zero_le _, Nat.zero_le _⟩) hO (fun H locs hO => ?_)
      refine lv_lload hx hb dX5_changeElement_63 (lv_at hl 0 rfl) ?_
      refine lv_lload hx hb dX5_changeElement_65 (lv_at hl 1 rfl) ?_
      obtain ⟨r21, st22, h23, h⟩ := bR_some h
      refine cw_calli (va_runV (As := [.int a1, .int r18, .long r15, .long r12]) (rest := []) ⟨hx, hb, hml, hown, hts⟩ (c_Rows_elementFailure l D A ad cA tb0 tb1 a0 ha0 a1 r18 r15 r12 st19 r21 st22 h23) (cwV 4 hts (gw_V w_c19e7088 w_09edf06d w_5790b627 w_8bdbd0d2 w_cb51ae7a) rfl rfl rfl (by decide +kernel) ⟨Nat.le_of_ble_eq_true rfl, Nat.le_of_ble_eq_true rfl⟩) (cw_preV (k := 185 + 9 * a0) (ci := 5) hK hO rfl (by have := ha0; omega) (cc_Rows ha0)) rfl rfl hl.1 rfl (lv_room (Nat.le_of_ble_eq_true rfl)) dX5_changeElement_67 ⟨Nat.zero_le _, Nat.zero_le _⟩) hO (fun H locs hO => ?_)
      refine lv_istore (lv' := [(8, .int r21), (6, .long r15), (4, .long r12), (2, .long r9), (0, .ref (ad (185 + 9 * a0))), (1, .int a1)]) hx hb dX5_changeElement_70 hl (by decide) rfl (fun ls hl => ?_)
      refine lv_iload hx hb dX5_changeElement_72 (lv_at hl 0 rfl) ?_
      refine lv_if_ne (tgt := 102) hx hb dX5_changeElement_74 (by decide) (fun c24 => ?_) (fun c24 => ?_)
      · have h := ite_f c24 h
        refine lv_iload hx hb dX5_changeElement_102 (lv_at hl 0 rfl) ?_
        obtain ⟨rfl, rfl⟩ := ret2 h; exact cw_iret hx hb hr hlocks hO dX5_changeElement_104
      · have h := ite_t c24 h
        refine lv_aload_n hx hb dX5_changeElement_77 rfl (lv_at hl 4 rfl) ?_
        refine gf_Rows_elements hx hb hgw iwRows hown hK hO ha0 k9 dX5_changeElement_78 ?_
        refine lv_aload_n hx hb dX5_changeElement_81 rfl (lv_at hl 4 rfl) ?_
        refine lv_lload hx hb dX5_changeElement_82 (lv_at hl 1 rfl) ?_
        refine lv_lload hx hb dX5_changeElement_84 (lv_at hl 2 rfl) ?_
        obtain ⟨r25, st26, h27, h⟩ := bR_some h
        refine cw_calli (va_runV (As := [.long r15, .long r12]) (rest := [.ref (ad (186 + 9 * a0))]) ⟨hx, hb, hml, hown, hts⟩ (c_Rows_placeOf l D A ad cA tb0 tb1 a0 ha0 r15 r12 st22 r25 st26 h27) (cwV 2 hts (gw_V w_ac50c630 w_512321e3 w_a4eb41e5 w_8bdbd0d2 w_5ae13e92) rfl rfl rfl (by decide +kernel) ⟨Nat.le_of_ble_eq_true rfl, Nat.le_of_ble_eq_true rfl⟩) (cw_preV (k := 185 + 9 * a0) (ci := 5) hK hO rfl (by have := ha0; omega) (cc_Rows ha0)) rfl rfl hl.1 rfl (lv_room (Nat.le_of_ble_eq_true rfl)) dX5_changeElement_86 ⟨Nat.zero_le _, Nat.zero_le _⟩) hO (fun H locs hO => ?_)
        refine lv_iload_n hx hb dX5_changeElement_89 rfl (lv_at hl 5 rfl) ?_
        refine lv_iconst (v := 2) hx hb dX5_changeElement_90 (by decide) ?_
        refine lv_icmp_ne (tgt := 100) hx hb dX5_changeElement_91 (by decide) (fun c28 => ?_) (fun c28 => ?_)
        · have h := ite_f c28 h
          refine lv_lload_n hx hb dX5_changeElement_100 rfl (lv_at hl 3 rfl) ?_
          obtain ⟨hc29, h⟩ := ck_some h
          refine as_Elems hx hb hK hO ha0 hc29 dX5_changeElement_101 (fun H locs hO => ?_)
          refine lv_iload hx hb dX5_changeElement_102 (lv_at hl 0 rfl) ?_
          obtain ⟨rfl, rfl⟩ := ret2 h; exact cw_iret hx hb hr hlocks hO dX5_changeElement_104
        · have h := ite_t c28 h
          refine lv_lload_n hx hb dX5_changeElement_94 rfl (lv_at hl 3 rfl) ?_
          refine lv_l2i hx hb dX5_changeElement_95 rfl ?_
          refine lv_i2l hx hb dX5_changeElement_96 rfl ?_
          refine lv_goto (tgt := 101) hx hb dX5_changeElement_97 (by decide) ?_
          obtain ⟨hc30, h⟩ := ck_some h
          refine as_Elems hx hb hK hO ha0 hc30 dX5_changeElement_101 (fun H locs hO => ?_)
          refine lv_iload hx hb dX5_changeElement_102 (lv_at hl 0 rfl) ?_
          obtain ⟨rfl, rfl⟩ := ret2 h; exact cw_iret hx hb hr hlocks hO dX5_changeElement_104
    · have h := ite_t c8 h
      refine lv_iconst (v := 4) hx hb dX5_changeElement_22 (by decide) ?_
      obtain ⟨rfl, rfl⟩ := ret2 h; exact cw_iret hx hb hr hlocks hO dX5_changeElement_23
-- Rows putLength
def j_Rows_putLength (a0 : Nat) (st : CwS) : Option (Int32 × CwS) :=
  bR (j_Pile_tookKind a0 ((0 : Int32)) st) fun r1 st2 =>
  if r1 = ((3 : Int32)) then
    some ((2 : Int32), st2)
  else
    bR (j_Pile_tookNumber a0 ((0 : Int32)) st2) fun r5 st6 =>
    if r5 = ((0 : Int32)) then
      bR (j_Pile_took a0 ((0 : Int32)) st6) fun r9 st10 =>
      bR (j_Rows_lengthOf a0 r9 st10) fun r12 st13 =>
      bR (j_Pile_putNumber a0 r12.toInt64 st13) fun r15 st16 =>
      some (r15, st16)
    else
      some ((4 : Int32), st6)
set_option maxHeartbeats 4000000 in
set_option maxRecDepth 100000 in
theorem c_Rows_putLength (l : Launch) (D : va_G) (A : Nat → Prop) (ad : Nat → Nat) (cA : Nat → ClassId) (tb0 tb1 : Nat) (a0 : Nat) (ha0 : a0 < 10) (st : CwS) (r : Int32) (st' : CwS) (h : j_Rows_putLength a0 st = some (r, st')) : Met l yX5_putLength (wv yX5_putLength cX5_putLength 1 (some .int)) ({ frames := 2, cells := 0, slots := 0, locals := 45 }) (va_Pc [.ref (ad (185 + 9 * a0))] (cwU D A ad cA tb0 tb1 st)) (cwQi D A ad cA tb0 tb1 r st') 0 0 A := by
  refine Met.ofW (cc := cX5_putLength) (maxL := 1) (ret := some .int) (by decide) rfl ?_
  intro p e s m args below meth c s₁ B hml hv
  obtain ⟨rfl, hP, hK⟩ := hv
  have hx := B.exec
  have hb := B.bytes
  have hr := B.returns
  have hts := atoms_spec (ws := wv yX5_putLength cX5_putLength 1 (some .int)) B.pre
  have hown : s.vm.findClass RX5 = some m.cls := findClass_of_methodNamed B.named
  have hlocks := B.notSynchronized
  have hO : cwO D A ad cA s st s.heap [] := ⟨hP, va_S.rf⟩
  have hl := lv_entry ([.ref (ad (185 + 9 * a0))]) (n := 1) (Nat.le_of_ble_eq_true rfl)
  rw [lg_entry_eq]
  generalize (lg_sl ([.ref (ad (185 + 9 * a0))]) ++ List.replicate (1 - (lg_sl ([.ref (ad (185 + 9 * a0))])).length) Slot.unset).toArray = ls at hl ⊢
  have hl : lv_has ls 1 [(0, .ref (ad (185 + 9 * a0)))] := hl
  have _h0 := hO
  have hgw := fun (w : Cond) (h : w ∈ gwW) => hts w (List.mem_cons_of_mem _ h)
  have k19 := hgw _ w_b00e8dcd
  unfold j_Rows_putLength at h
  refine lv_aload_n hx hb dX5_putLength_0 rfl (lv_at hl 0 rfl) ?_
  refine gf_Rows_pile hx hb hgw iwRows hown hK hO ha0 k19 dX5_putLength_1 ?_
  refine lv_iconst (v := 0) hx hb dX5_putLength_4 (by decide) ?_
  obtain ⟨r1, st2, h3, h⟩ := bR_some h
  refine cw_calli (va_runV (As := [.int ((0 : Int32))]) (rest := []) ⟨hx, hb, hml, hown, hts⟩ (c_Pile_tookKind l D A ad cA tb0 tb1 a0 ha0 ((0 : Int32)) st r1 st2 h3) (cwV 1 hts (gw_V w_cdb175cb w_5c9fe01c w_ceab1f00 w_76c797a4 w_72af167e) rfl rfl rfl (by decide +kernel) ⟨Nat.le_of_ble_eq_true rfl, Nat.le_of_ble_eq_true rfl⟩) (cw_preV (k := 182 + 9 * a0) (ci := 4) hK hO rfl (by have := ha0; omega) (cc_Pile ha0)) rfl rfl hl.1 rfl (lv_room (Nat.le_of_ble_eq_true rfl)) dX5_putLength_5 ⟨Nat.zero_le _, Nat.zero_le _⟩) hO (fun H locs hO => ?_)
  refine lv_iconst (v := 3) hx hb dX5_putLength_8 (by decide) ?_
  refine lv_icmp_ne (tgt := 14) hx hb dX5_putLength_9 (by decide) (fun c4 => ?_) (fun c4 => ?_)
  · have h := ite_f c4 h
    refine lv_aload_n hx hb dX5_putLength_14 rfl (lv_at hl 0 rfl) ?_
    refine gf_Rows_pile hx hb hgw iwRows hown hK hO ha0 k19 dX5_putLength_15 ?_
    refine lv_iconst (v := 0) hx hb dX5_putLength_18 (by decide) ?_
    obtain ⟨r5, st6, h7, h⟩ := bR_some h
    refine cw_calli (va_runV (As := [.int ((0 : Int32))]) (rest := []) ⟨hx, hb, hml, hown, hts⟩ (c_Pile_tookNumber l D A ad cA tb0 tb1 a0 ha0 ((0 : Int32)) st2 r5 st6 h7) (cwV 1 hts (gw_V w_3df059a5 w_710a0455 w_eea10879 w_76c797a4 w_f9f5f760) rfl rfl rfl (by decide +kernel) ⟨Nat.le_of_ble_eq_true rfl, Nat.le_of_ble_eq_true rfl⟩) (cw_preV (k := 182 + 9 * a0) (ci := 4) hK hO rfl (by have := ha0; omega) (cc_Pile ha0)) rfl rfl hl.1 rfl (lv_room (Nat.le_of_ble_eq_true rfl)) dX5_putLength_19 ⟨Nat.zero_le _, Nat.zero_le _⟩) hO (fun H locs hO => ?_)
    refine lv_if_eq (tgt := 27) hx hb dX5_putLength_22 (by decide) (fun c8 => ?_) (fun c8 => ?_)
    · have h := ite_t c8 h
      refine lv_aload_n hx hb dX5_putLength_27 rfl (lv_at hl 0 rfl) ?_
      refine gf_Rows_pile hx hb hgw iwRows hown hK hO ha0 k19 dX5_putLength_28 ?_
      refine lv_aload_n hx hb dX5_putLength_31 rfl (lv_at hl 0 rfl) ?_
      refine lv_aload_n hx hb dX5_putLength_32 rfl (lv_at hl 0 rfl) ?_
      refine gf_Rows_pile hx hb hgw iwRows hown hK hO ha0 k19 dX5_putLength_33 ?_
      refine lv_iconst (v := 0) hx hb dX5_putLength_36 (by decide) ?_
      obtain ⟨r9, st10, h11, h⟩ := bR_some h
      refine cw_calll (va_runV (As := [.int ((0 : Int32))]) (rest := [.ref (ad (185 + 9 * a0)), .ref (ad (182 + 9 * a0))]) ⟨hx, hb, hml, hown, hts⟩ (c_Pile_took l D A ad cA tb0 tb1 a0 ha0 ((0 : Int32)) st6 r9 st10 h11) (cwV 1 hts (gw_V w_6eb0be21 w_e50f7684 w_26b160a3 w_76c797a4 w_c905c078) rfl rfl rfl (by decide +kernel) ⟨Nat.le_of_ble_eq_true rfl, Nat.le_of_ble_eq_true rfl⟩) (cw_preV (k := 182 + 9 * a0) (ci := 4) hK hO rfl (by have := ha0; omega) (cc_Pile ha0)) rfl rfl hl.1 rfl (lv_room (Nat.le_of_ble_eq_true rfl)) dX5_putLength_37 ⟨Nat.zero_le _, Nat.zero_le _⟩) hO (fun H locs hO => ?_)
      obtain ⟨r12, st13, h14, h⟩ := bR_some h
      refine cw_calli (va_runV (As := [.long r9]) (rest := [.ref (ad (182 + 9 * a0))]) ⟨hx, hb, hml, hown, hts⟩ (c_Rows_lengthOf l D A ad cA tb0 tb1 a0 ha0 r9 st10 r12 st13 h14) (cwV 1 hts (gw_V w_eb771c37 w_47a11451 w_e6548b4e w_8bdbd0d2 w_69ff08de) rfl rfl rfl (by decide +kernel) ⟨Nat.le_of_ble_eq_true rfl, Nat.le_of_ble_eq_true rfl⟩) (cw_preV (k := 185 + 9 * a0) (ci := 5) hK hO rfl (by have := ha0; omega) (cc_Rows ha0)) rfl rfl hl.1 rfl (lv_room (Nat.le_of_ble_eq_true rfl)) dX5_putLength_40 ⟨Nat.zero_le _, Nat.zero_le _⟩) hO (fun H locs hO => ?_)
      refine lv_i2l hx hb dX5_putLength_43 rfl ?_
      obtain ⟨r15, st16, h17, h⟩ := bR_some h
      refine cw_calli (va_runV (As := [.long r12.toInt64]) (rest := []) ⟨hx, hb, hml, hown, hts⟩ (c_Pile_putNumber l D A ad cA tb0 tb1 a0 ha0 r12.toInt64 st13 r15 st16 h17) (cwV 1 hts (gw_V w_81d1523b w_34c9ad22 w_9e5e849e w_76c797a4 w_03086df0) rfl rfl rfl (by decide +kernel) ⟨Nat.le_of_ble_eq_true rfl, Nat.le_of_ble_eq_true rfl⟩) (cw_preV (k := 182 + 9 * a0) (ci := 4) hK hO rfl (by have := ha0; omega) (cc_Pile ha0)) rfl rfl hl.1 rfl (lv_room (Nat.le_of_ble_eq_true rfl)) dX5_putLength_44 ⟨Nat.zero_le _, Nat.zero_le _⟩) hO (fun H locs hO => ?_)
      obtain ⟨rfl, rfl⟩ := ret2 h; exact cw_iret hx hb hr hlocks hO dX5_putLength_47
    · have h := ite_f c8 h
      refine lv_iconst (v := 4) hx hb dX5_putLength_25 (by decide) ?_
      obtain ⟨rfl, rfl⟩ := ret2 h; exact cw_iret hx hb hr hlocks hO dX5_putLength_26
  · have h := ite_t c4 h
    refine lv_iconst (v := 2) hx hb dX5_putLength_12 (by decide) ?_
    obtain ⟨rfl, rfl⟩ := ret2 h; exact cw_iret hx hb hr hlocks hO dX5_putLength_13
-- Rows copyElements
def j_Rows_copyElements (a0 : Nat) (st : CwS) : Option (Int32 × CwS) :=
  bR (j_Pile_tookNumber a0 ((0 : Int32)) st) fun r1 st2 =>
  if r1 = ((0 : Int32)) then
    some ((4 : Int32), st2)
  else
    bR (j_Pile_tookNumber a0 ((1 : Int32)) st2) fun r5 st6 =>
    if r5 = ((0 : Int32)) then
      some ((4 : Int32), st6)
    else
      bR (j_Pile_tookNumber a0 ((3 : Int32)) st6) fun r9 st10 =>
      if r9 = ((0 : Int32)) then
        some ((4 : Int32), st10)
      else
        bR (j_Pile_tookKind a0 ((2 : Int32)) st10) fun r13 st14 =>
        if r13 = ((3 : Int32)) then
          some ((2 : Int32), st14)
        else
          bR (j_Pile_tookKind a0 ((4 : Int32)) st14) fun r17 st18 =>
          if r17 = ((3 : Int32)) then
            some ((2 : Int32), st18)
          else
            bR (j_Pile_tookNumber a0 ((2 : Int32)) st18) fun r21 st22 =>
            if r21 = ((0 : Int32)) then
              bR (j_Pile_tookKind a0 ((2 : Int32)) st22) fun r25 st26 =>
              bR (j_Pile_tookKind a0 ((4 : Int32)) st26) fun r28 st29 =>
              if r25 = r28 then
                bR (j_Pile_took a0 ((0 : Int32)) st29) fun r32 st33 =>
                bR (j_Pile_took a0 ((1 : Int32)) st33) fun r35 st36 =>
                bR (j_Pile_took a0 ((2 : Int32)) st36) fun r38 st39 =>
                bR (j_Pile_took a0 ((3 : Int32)) st39) fun r41 st42 =>
                bR (j_Pile_took a0 ((4 : Int32)) st42) fun r44 st45 =>
                bR (j_Rows_hasRange a0 r44 r41 r32 st45) fun r47 st48 =>
                if r47 = ((0 : Int32)) then
                  some ((3 : Int32), st48)
                else
                  bR (j_Rows_hasRange a0 r38 r35 r32 st48) fun r51 st52 =>
                  if r51 = ((0 : Int32)) then
                    some ((3 : Int32), st52)
                  else
                    if (lg_cmp r32 ((0 : Int64))) ≤ ((0 : Int32)) then
                      some ((0 : Int32), st52)
                    else
                      bR (j_Rows_placeOf a0 r44 r41 st52) fun r56 st57 =>
                      bR (j_Rows_placeOf a0 r38 r35 st57) fun r59 st60 =>
                      ck (cpk r56 r59 r32.toInt32 192 192) <|
                      some ((0 : Int32), cL st60 7 a0 r56.toNatClampNeg 7 a0 r59.toNatClampNeg r32.toInt32.toNatClampNeg)
              else
                some ((4 : Int32), st29)
            else
              some ((4 : Int32), st22)
set_option maxHeartbeats 4000000 in
set_option maxRecDepth 100000 in
theorem c_Rows_copyElements (l : Launch) (D : va_G) (A : Nat → Prop) (ad : Nat → Nat) (cA : Nat → ClassId) (tb0 tb1 : Nat) (a0 : Nat) (ha0 : a0 < 10) (st : CwS) (r : Int32) (st' : CwS) (h : j_Rows_copyElements a0 st = some (r, st')) : Met l yX5_copyElements (wv yX5_copyElements cX5_copyElements 11 (some .int)) ({ frames := 2, cells := 0, slots := 0, locals := 49 }) (va_Pc [.ref (ad (185 + 9 * a0))] (cwU D A ad cA tb0 tb1 st)) (cwQi D A ad cA tb0 tb1 r st') 0 0 A := by
  refine Met.ofW (cc := cX5_copyElements) (maxL := 11) (ret := some .int) (by decide) rfl ?_
  intro p e s m args below meth c s₁ B hml hv
  obtain ⟨rfl, hP, hK⟩ := hv
  have hx := B.exec
  have hb := B.bytes
  have hr := B.returns
  have hts := atoms_spec (ws := wv yX5_copyElements cX5_copyElements 11 (some .int)) B.pre
  have hown : s.vm.findClass RX5 = some m.cls := findClass_of_methodNamed B.named
  have hlocks := B.notSynchronized
  have hO : cwO D A ad cA s st s.heap [] := ⟨hP, va_S.rf⟩
  have hl := lv_entry ([.ref (ad (185 + 9 * a0))]) (n := 11) (Nat.le_of_ble_eq_true rfl)
  rw [lg_entry_eq]
  generalize (lg_sl ([.ref (ad (185 + 9 * a0))]) ++ List.replicate (11 - (lg_sl ([.ref (ad (185 + 9 * a0))])).length) Slot.unset).toArray = ls at hl ⊢
  have hl : lv_has ls 11 [(0, .ref (ad (185 + 9 * a0)))] := hl
  have _h0 := hO
  have hgw := fun (w : Cond) (h : w ∈ gwW) => hts w (List.mem_cons_of_mem _ h)
  have k9 := hgw _ w_44bf1df9
  have k19 := hgw _ w_b00e8dcd
  have k51 := hgw _ w_2284ff03
  unfold j_Rows_copyElements at h
  refine lv_aload_n hx hb dX5_copyElements_0 rfl (lv_at hl 0 rfl) ?_
  refine gf_Rows_pile hx hb hgw iwRows hown hK hO ha0 k19 dX5_copyElements_1 ?_
  refine lv_iconst (v := 0) hx hb dX5_copyElements_4 (by decide) ?_
  obtain ⟨r1, st2, h3, h⟩ := bR_some h
  refine cw_calli (va_runV (As := [.int ((0 : Int32))]) (rest := []) ⟨hx, hb, hml, hown, hts⟩ (c_Pile_tookNumber l D A ad cA tb0 tb1 a0 ha0 ((0 : Int32)) st r1 st2 h3) (cwV 1 hts (gw_V w_3df059a5 w_710a0455 w_eea10879 w_76c797a4 w_f9f5f760) rfl rfl rfl (by decide +kernel) ⟨Nat.le_of_ble_eq_true rfl, Nat.le_of_ble_eq_true rfl⟩) (cw_preV (k := 182 + 9 * a0) (ci := 4) hK hO rfl (by have := ha0; omega) (cc_Pile ha0)) rfl rfl hl.1 rfl (lv_room (Nat.le_of_ble_eq_true rfl)) dX5_copyElements_5 ⟨Nat.zero_le _, Nat.zero_le _⟩) hO (fun H locs hO => ?_)
  refine lv_if_eq (tgt := 33) hx hb dX5_copyElements_8 (by decide) (fun c4 => ?_) (fun c4 => ?_)
  · have h := ite_t c4 h
    refine lv_iconst (v := 4) hx hb dX5_copyElements_33 (by decide) ?_
    obtain ⟨rfl, rfl⟩ := ret2 h; exact cw_iret hx hb hr hlocks hO dX5_copyElements_34
  · have h := ite_f c4 h
    refine lv_aload_n hx hb dX5_copyElements_11 rfl (lv_at hl 0 rfl) ?_
    refine gf_Rows_pile hx hb hgw iwRows hown hK hO ha0 k19 dX5_copyElements_12 ?_
    refine lv_iconst (v := 1) hx hb dX5_copyElements_15 (by decide) ?_
    obtain ⟨r5, st6, h7, h⟩ := bR_some h
    refine cw_calli (va_runV (As := [.int ((1 : Int32))]) (rest := []) ⟨hx, hb, hml, hown, hts⟩ (c_Pile_tookNumber l D A ad cA tb0 tb1 a0 ha0 ((1 : Int32)) st2 r5 st6 h7) (cwV 1 hts (gw_V w_3df059a5 w_710a0455 w_eea10879 w_76c797a4 w_f9f5f760) rfl rfl rfl (by decide +kernel) ⟨Nat.le_of_ble_eq_true rfl, Nat.le_of_ble_eq_true rfl⟩) (cw_preV (k := 182 + 9 * a0) (ci := 4) hK hO rfl (by have := ha0; omega) (cc_Pile ha0)) rfl rfl hl.1 rfl (lv_room (Nat.le_of_ble_eq_true rfl)) dX5_copyElements_16 ⟨Nat.zero_le _, Nat.zero_le _⟩) hO (fun H locs hO => ?_)
    refine lv_if_eq (tgt := 33) hx hb dX5_copyElements_19 (by decide) (fun c8 => ?_) (fun c8 => ?_)
    · have h := ite_t c8 h
      refine lv_iconst (v := 4) hx hb dX5_copyElements_33 (by decide) ?_
      obtain ⟨rfl, rfl⟩ := ret2 h; exact cw_iret hx hb hr hlocks hO dX5_copyElements_34
    · have h := ite_f c8 h
      refine lv_aload_n hx hb dX5_copyElements_22 rfl (lv_at hl 0 rfl) ?_
      refine gf_Rows_pile hx hb hgw iwRows hown hK hO ha0 k19 dX5_copyElements_23 ?_
      refine lv_iconst (v := 3) hx hb dX5_copyElements_26 (by decide) ?_
      obtain ⟨r9, st10, h11, h⟩ := bR_some h
      refine cw_calli (va_runV (As := [.int ((3 : Int32))]) (rest := []) ⟨hx, hb, hml, hown, hts⟩ (c_Pile_tookNumber l D A ad cA tb0 tb1 a0 ha0 ((3 : Int32)) st6 r9 st10 h11) (cwV 1 hts (gw_V w_3df059a5 w_710a0455 w_eea10879 w_76c797a4 w_f9f5f760) rfl rfl rfl (by decide +kernel) ⟨Nat.le_of_ble_eq_true rfl, Nat.le_of_ble_eq_true rfl⟩) (cw_preV (k := 182 + 9 * a0) (ci := 4) hK hO rfl (by have := ha0; omega) (cc_Pile ha0)) rfl rfl hl.1 rfl (lv_room (Nat.le_of_ble_eq_true rfl)) dX5_copyElements_27 ⟨Nat.zero_le _, Nat.zero_le _⟩) hO (fun H locs hO => ?_)
      refine lv_if_ne (tgt := 35) hx hb dX5_copyElements_30 (by decide) (fun c12 => ?_) (fun c12 => ?_)
      · have h := ite_f c12 h
        refine lv_aload_n hx hb dX5_copyElements_35 rfl (lv_at hl 0 rfl) ?_
        refine gf_Rows_pile hx hb hgw iwRows hown hK hO ha0 k19 dX5_copyElements_36 ?_
        refine lv_iconst (v := 2) hx hb dX5_copyElements_39 (by decide) ?_
        obtain ⟨r13, st14, h15, h⟩ := bR_some h
        refine cw_calli (va_runV (As := [.int ((2 : Int32))]) (rest := []) ⟨hx, hb, hml, hown, hts⟩ (c_Pile_tookKind l D A ad cA tb0 tb1 a0 ha0 ((2 : Int32)) st10 r13 st14 h15) (cwV 1 hts (gw_V w_cdb175cb w_5c9fe01c w_ceab1f00 w_76c797a4 w_72af167e) rfl rfl rfl (by decide +kernel) ⟨Nat.le_of_ble_eq_true rfl, Nat.le_of_ble_eq_true rfl⟩) (cw_preV (k := 182 + 9 * a0) (ci := 4) hK hO rfl (by have := ha0; omega) (cc_Pile ha0)) rfl rfl hl.1 rfl (lv_room (Nat.le_of_ble_eq_true rfl)) dX5_copyElements_40 ⟨Nat.zero_le _, Nat.zero_le _⟩) hO (fun H locs hO => ?_)
        refine lv_iconst (v := 3) hx hb dX5_copyElements_43 (by decide) ?_
        refine lv_icmp_eq (tgt := 59) hx hb dX5_copyElements_44 (by decide) (fun c16 => ?_) (fun c16 => ?_)
        · have h := ite_t c16 h
          refine lv_iconst (v := 2) hx hb dX5_copyElements_59 (by decide) ?_
          obtain ⟨rfl, rfl⟩ := ret2 h; exact cw_iret hx hb hr hlocks hO dX5_copyElements_60
        · have h := ite_f c16 h
          refine lv_aload_n hx hb dX5_copyElements_47 rfl (lv_at hl 0 rfl) ?_
          refine gf_Rows_pile hx hb hgw iwRows hown hK hO ha0 k19 dX5_copyElements_48 ?_
          refine lv_iconst (v := 4) hx hb dX5_copyElements_51 (by decide) ?_
          obtain ⟨r17, st18, h19, h⟩ := bR_some h
          refine cw_calli (va_runV (As := [.int ((4 : Int32))]) (rest := []) ⟨hx, hb, hml, hown, hts⟩ (c_Pile_tookKind l D A ad cA tb0 tb1 a0 ha0 ((4 : Int32)) st14 r17 st18 h19) (cwV 1 hts (gw_V w_cdb175cb w_5c9fe01c w_ceab1f00 w_76c797a4 w_72af167e) rfl rfl rfl (by decide +kernel) ⟨Nat.le_of_ble_eq_true rfl, Nat.le_of_ble_eq_true rfl⟩) (cw_preV (k := 182 + 9 * a0) (ci := 4) hK hO rfl (by have := ha0; omega) (cc_Pile ha0)) rfl rfl hl.1 rfl (lv_room (Nat.le_of_ble_eq_true rfl)) dX5_copyElements_52 ⟨Nat.zero_le _, Nat.zero_le _⟩) hO (fun H locs hO => ?_)
          refine lv_iconst (v := 3) hx hb dX5_copyElements_55 (by decide) ?_
          refine lv_icmp_ne (tgt := 61) hx hb dX5_copyElements_56 (by decide) (fun c20 => ?_) (fun c20 => ?_)
          · have h := ite_f c20 h
            refine lv_aload_n hx hb dX5_copyElements_61 rfl (lv_at hl 0 rfl) ?_
            refine gf_Rows_pile hx hb hgw iwRows hown hK hO ha0 k19 dX5_copyElements_62 ?_
            refine lv_iconst (v := 2) hx hb dX5_copyElements_65 (by decide) ?_
            obtain ⟨r21, st22, h23, h⟩ := bR_some h
            refine cw_calli (va_runV (As := [.int ((2 : Int32))]) (rest := []) ⟨hx, hb, hml, hown, hts⟩ (c_Pile_tookNumber l D A ad cA tb0 tb1 a0 ha0 ((2 : Int32)) st18 r21 st22 h23) (cwV 1 hts (gw_V w_3df059a5 w_710a0455 w_eea10879 w_76c797a4 w_f9f5f760) rfl rfl rfl (by decide +kernel) ⟨Nat.le_of_ble_eq_true rfl, Nat.le_of_ble_eq_true rfl⟩) (cw_preV (k := 182 + 9 * a0) (ci := 4) hK hO rfl (by have := ha0; omega) (cc_Pile ha0)) rfl rfl hl.1 rfl (lv_room (Nat.le_of_ble_eq_true rfl)) dX5_copyElements_66 ⟨Nat.zero_le _, Nat.zero_le _⟩) hO (fun H locs hO => ?_)
            refine lv_if_ne (tgt := 91) hx hb dX5_copyElements_69 (by decide) (fun c24 => ?_) (fun c24 => ?_)
            · have h := ite_f c24 h
              refine lv_iconst (v := 4) hx hb dX5_copyElements_91 (by decide) ?_
              obtain ⟨rfl, rfl⟩ := ret2 h; exact cw_iret hx hb hr hlocks hO dX5_copyElements_92
            · have h := ite_t c24 h
              refine lv_aload_n hx hb dX5_copyElements_72 rfl (lv_at hl 0 rfl) ?_
              refine gf_Rows_pile hx hb hgw iwRows hown hK hO ha0 k19 dX5_copyElements_73 ?_
              refine lv_iconst (v := 2) hx hb dX5_copyElements_76 (by decide) ?_
              obtain ⟨r25, st26, h27, h⟩ := bR_some h
              refine cw_calli (va_runV (As := [.int ((2 : Int32))]) (rest := []) ⟨hx, hb, hml, hown, hts⟩ (c_Pile_tookKind l D A ad cA tb0 tb1 a0 ha0 ((2 : Int32)) st22 r25 st26 h27) (cwV 1 hts (gw_V w_cdb175cb w_5c9fe01c w_ceab1f00 w_76c797a4 w_72af167e) rfl rfl rfl (by decide +kernel) ⟨Nat.le_of_ble_eq_true rfl, Nat.le_of_ble_eq_true rfl⟩) (cw_preV (k := 182 + 9 * a0) (ci := 4) hK hO rfl (by have := ha0; omega) (cc_Pile ha0)) rfl rfl hl.1 rfl (lv_room (Nat.le_of_ble_eq_true rfl)) dX5_copyElements_77 ⟨Nat.zero_le _, Nat.zero_le _⟩) hO (fun H locs hO => ?_)
              refine lv_aload_n hx hb dX5_copyElements_80 rfl (lv_at hl 0 rfl) ?_
              refine gf_Rows_pile hx hb hgw iwRows hown hK hO ha0 k19 dX5_copyElements_81 ?_
              refine lv_iconst (v := 4) hx hb dX5_copyElements_84 (by decide) ?_
              obtain ⟨r28, st29, h30, h⟩ := bR_some h
              refine cw_calli (va_runV (As := [.int ((4 : Int32))]) (rest := [.int r25]) ⟨hx, hb, hml, hown, hts⟩ (c_Pile_tookKind l D A ad cA tb0 tb1 a0 ha0 ((4 : Int32)) st26 r28 st29 h30) (cwV 1 hts (gw_V w_cdb175cb w_5c9fe01c w_ceab1f00 w_76c797a4 w_72af167e) rfl rfl rfl (by decide +kernel) ⟨Nat.le_of_ble_eq_true rfl, Nat.le_of_ble_eq_true rfl⟩) (cw_preV (k := 182 + 9 * a0) (ci := 4) hK hO rfl (by have := ha0; omega) (cc_Pile ha0)) rfl rfl hl.1 rfl (lv_room (Nat.le_of_ble_eq_true rfl)) dX5_copyElements_85 ⟨Nat.zero_le _, Nat.zero_le _⟩) hO (fun H locs hO => ?_)
              refine lv_icmp_eq (tgt := 93) hx hb dX5_copyElements_88 (by decide) (fun c31 => ?_) (fun c31 => ?_)
              · have h := ite_t c31 h
                refine lv_aload_n hx hb dX5_copyElements_93 rfl (lv_at hl 0 rfl) ?_
                refine gf_Rows_pile hx hb hgw iwRows hown hK hO ha0 k19 dX5_copyElements_94 ?_
                refine lv_iconst (v := 0) hx hb dX5_copyElements_97 (by decide) ?_
                obtain ⟨r32, st33, h34, h⟩ := bR_some h
                refine cw_calll (va_runV (As := [.int ((0 : Int32))]) (rest := []) ⟨hx, hb, hml, hown, hts⟩ (c_Pile_took l D A ad cA tb0 tb1 a0 ha0 ((0 : Int32)) st29 r32 st33 h34) (cwV 1 hts (gw_V w_6eb0be21 w_e50f7684 w_26b160a3 w_76c797a4 w_c905c078) rfl rfl rfl (by decide +kernel) ⟨Nat.le_of_ble_eq_true rfl, Nat.le_of_ble_eq_true rfl⟩) (cw_preV (k := 182 + 9 * a0) (ci := 4) hK hO rfl (by have := ha0; omega) (cc_Pile ha0)) rfl rfl hl.1 rfl (lv_room (Nat.le_of_ble_eq_true rfl)) dX5_copyElements_98 ⟨Nat.zero_le _, Nat.zero_le _⟩) hO (fun H locs hO => ?_)
                refine lv_lstore_n (lv' := [(1, .long r32), (0, .ref (ad (185 + 9 * a0)))]) hx hb dX5_copyElements_101 rfl hl (by decide) rfl (fun ls hl => ?_)
                refine lv_aload_n hx hb dX5_copyElements_102 rfl (lv_at hl 1 rfl) ?_
                refine gf_Rows_pile hx hb hgw iwRows hown hK hO ha0 k19 dX5_copyElements_103 ?_
                refine lv_iconst (v := 1) hx hb dX5_copyElements_106 (by decide) ?_
                obtain ⟨r35, st36, h37, h⟩ := bR_some h
                refine cw_calll (va_runV (As := [.int ((1 : Int32))]) (rest := []) ⟨hx, hb, hml, hown, hts⟩ (c_Pile_took l D A ad cA tb0 tb1 a0 ha0 ((1 : Int32)) st33 r35 st36 h37) (cwV 1 hts (gw_V w_6eb0be21 w_e50f7684 w_26b160a3 w_76c797a4 w_c905c078) rfl rfl rfl (by decide +kernel) ⟨Nat.le_of_ble_eq_true rfl, Nat.le_of_ble_eq_true rfl⟩) (cw_preV (k := 182 + 9 * a0) (ci := 4) hK hO rfl (by have := ha0; omega) (cc_Pile ha0)) rfl rfl hl.1 rfl (lv_room (Nat.le_of_ble_eq_true rfl)) dX5_copyElements_107 ⟨Nat.zero_le _, Nat.zero_le _⟩) hO (fun H locs hO => ?_)
                refine lv_lstore_n (lv' := [(3, .long r35), (1, .long r32), (0, .ref (ad (185 + 9 * a0)))]) hx hb dX5_copyElements_110 rfl hl (by decide) rfl (fun ls hl => ?_)
                refine lv_aload_n hx hb dX5_copyElements_111 rfl (lv_at hl 2 rfl) ?_
                refine gf_Rows_pile hx hb hgw iwRows hown hK hO ha0 k19 dX5_copyElements_112 ?_
                refine lv_iconst (v := 2) hx hb dX5_copyElements_115 (by decide) ?_
                obtain ⟨r38, st39, h40, h⟩ := bR_some h
                refine cw_calll (va_runV (As := [.int ((2 : Int32))]) (rest := []) ⟨hx, hb, hml, hown, hts⟩ (c_Pile_took l D A ad cA tb0 tb1 a0 ha0 ((2 : Int32)) st36 r38 st39 h40) (cwV 1 hts (gw_V w_6eb0be21 w_e50f7684 w_26b160a3 w_76c797a4 w_c905c078) rfl rfl rfl (by decide +kernel) ⟨Nat.le_of_ble_eq_true rfl, Nat.le_of_ble_eq_true rfl⟩) (cw_preV (k := 182 + 9 * a0) (ci := 4) hK hO rfl (by have := ha0; omega) (cc_Pile ha0)) rfl rfl hl.1 rfl (lv_room (Nat.le_of_ble_eq_true rfl)) dX5_copyElements_116 ⟨Nat.zero_le _, Nat.zero_le _⟩) hO (fun H locs hO => ?_)
                refine lv_lstore (lv' := [(5, .long r38), (3, .long r35), (1, .long r32), (0, .ref (ad (185 + 9 * a0)))]) hx hb dX5_copyElements_119 hl (by decide) rfl (fun ls hl => ?_)
                refine lv_aload_n hx hb dX5_copyElements_121 rfl (lv_at hl 3 rfl) ?_
                refine gf_Rows_pile hx hb hgw iwRows hown hK hO ha0 k19 dX5_copyElements_122 ?_
                refine lv_iconst (v := 3) hx hb dX5_copyElements_125 (by decide) ?_
                obtain ⟨r41, st42, h43, h⟩ := bR_some h
                refine cw_calll (va_runV (As := [.int ((3 : Int32))]) (rest := []) ⟨hx, hb, hml, hown, hts⟩ (c_Pile_took l D A ad cA tb0 tb1 a0 ha0 ((3 : Int32)) st39 r41 st42 h43) (cwV 1 hts (gw_V w_6eb0be21 w_e50f7684 w_26b160a3 w_76c797a4 w_c905c078) rfl rfl rfl (by decide +kernel) ⟨Nat.le_of_ble_eq_true rfl, Nat.le_of_ble_eq_true rfl⟩) (cw_preV (k := 182 + 9 * a0) (ci := 4) hK hO rfl (by have := ha0; omega) (cc_Pile ha0)) rfl rfl hl.1 rfl (lv_room (Nat.le_of_ble_eq_true rfl)) dX5_copyElements_126 ⟨Nat.zero_le _, Nat.zero_le _⟩) hO (fun H locs hO => ?_)
                refine lv_lstore (lv' := [(7, .long r41), (5, .long r38), (3, .long r35), (1, .long r32), (0, .ref (ad (185 + 9 * a0)))]) hx hb dX5_copyElements_129 hl (by decide) rfl (fun ls hl => ?_)
                refine lv_aload_n hx hb dX5_copyElements_131 rfl (lv_at hl 4 rfl) ?_
                refine gf_Rows_pile hx hb hgw iwRows hown hK hO ha0 k19 dX5_copyElements_132 ?_
                refine lv_iconst (v := 4) hx hb dX5_copyElements_135 (by decide) ?_
                obtain ⟨r44, st45, h46, h⟩ := bR_some h
                refine cw_calll (va_runV (As := [.int ((4 : Int32))]) (rest := []) ⟨hx, hb, hml, hown, hts⟩ (c_Pile_took l D A ad cA tb0 tb1 a0 ha0 ((4 : Int32)) st42 r44 st45 h46) (cwV 1 hts (gw_V w_6eb0be21 w_e50f7684 w_26b160a3 w_76c797a4 w_c905c078) rfl rfl rfl (by decide +kernel) ⟨Nat.le_of_ble_eq_true rfl, Nat.le_of_ble_eq_true rfl⟩) (cw_preV (k := 182 + 9 * a0) (ci := 4) hK hO rfl (by have := ha0; omega) (cc_Pile ha0)) rfl rfl hl.1 rfl (lv_room (Nat.le_of_ble_eq_true rfl)) dX5_copyElements_136 ⟨Nat.zero_le _, Nat.zero_le _⟩) hO (fun H locs hO => ?_)
                refine lv_lstore (lv' := [(9, .long r44), (7, .long r41), (5, .long r38), (3, .long r35), (1, .long r32), (0, .ref (ad (185 + 9 * a0)))]) hx hb dX5_copyElements_139 hl (by decide) rfl (fun ls hl => ?_)
                refine lv_aload_n hx hb dX5_copyElements_141 rfl (lv_at hl 5 rfl) ?_
                refine lv_lload hx hb dX5_copyElements_142 (lv_at hl 0 rfl) ?_
                refine lv_lload hx hb dX5_copyElements_144 (lv_at hl 1 rfl) ?_
                refine lv_lload_n hx hb dX5_copyElements_146 rfl (lv_at hl 4 rfl) ?_
                obtain ⟨r47, st48, h49, h⟩ := bR_some h
                refine cw_calli (va_runV (As := [.long r44, .long r41, .long r32]) (rest := []) ⟨hx, hb, hml, hown, hts⟩ (c_Rows_hasRange l D A ad cA tb0 tb1 a0 ha0 r44 r41 r32 st45 r47 st48 h49) (cwV 3 hts (gw_V w_4a2bada4 w_0b3e77d4 w_86ede6f9 w_8bdbd0d2 w_0e5f6c57) rfl rfl rfl (by decide +kernel) ⟨Nat.le_of_ble_eq_true rfl, Nat.le_of_ble_eq_true rfl⟩) (cw_preV (k := 185 + 9 * a0) (ci := 5) hK hO rfl (by have := ha0; omega) (cc_Rows ha0)) rfl rfl hl.1 rfl (lv_room (Nat.le_of_ble_eq_true rfl)) dX5_copyElements_147 ⟨Nat.zero_le _, Nat.zero_le _⟩) hO (fun H locs hO => ?_)
                refine lv_if_eq (tgt := 164) hx hb dX5_copyElements_150 (by decide) (fun c50 => ?_) (fun c50 => ?_)
                · have h := ite_t c50 h
                  refine lv_iconst (v := 3) hx hb dX5_copyElements_164 (by decide) ?_
                  obtain ⟨rfl, rfl⟩ := ret2 h; exact cw_iret hx hb hr hlocks hO dX5_copyElements_165
                · have h := ite_f c50 h
                  refine lv_aload_n hx hb dX5_copyElements_153 rfl (lv_at hl 5 rfl) ?_
                  refine lv_lload hx hb dX5_copyElements_154 (lv_at hl 2 rfl) ?_
                  refine lv_lload_n hx hb dX5_copyElements_156 rfl (lv_at hl 3 rfl) ?_
                  refine lv_lload_n hx hb dX5_copyElements_157 rfl (lv_at hl 4 rfl) ?_
                  obtain ⟨r51, st52, h53, h⟩ := bR_some h
                  refine cw_calli (va_runV (As := [.long r38, .long r35, .long r32]) (rest := []) ⟨hx, hb, hml, hown, hts⟩ (c_Rows_hasRange l D A ad cA tb0 tb1 a0 ha0 r38 r35 r32 st48 r51 st52 h53) (cwV 3 hts (gw_V w_4a2bada4 w_0b3e77d4 w_86ede6f9 w_8bdbd0d2 w_0e5f6c57) rfl rfl rfl (by decide +kernel) ⟨Nat.le_of_ble_eq_true rfl, Nat.le_of_ble_eq_true rfl⟩) (cw_preV (k := 185 + 9 * a0) (ci := 5) hK hO rfl (by have := ha0; omega) (cc_Rows ha0)) rfl rfl hl.1 rfl (lv_room (Nat.le_of_ble_eq_true rfl)) dX5_copyElements_158 ⟨Nat.zero_le _, Nat.zero_le _⟩) hO (fun H locs hO => ?_)
                  refine lv_if_ne (tgt := 166) hx hb dX5_copyElements_161 (by decide) (fun c54 => ?_) (fun c54 => ?_)
                  · have h := ite_f c54 h
                    refine lv_lload_n hx hb dX5_copyElements_166 rfl (lv_at hl 4 rfl) ?_
                    refine lv_lconst (v := 0) hx hb dX5_copyElements_167 (by decide) ?_
                    refine W.lcmp hx hb dX5_copyElements_168 ?_
                    refine lv_if_le (tgt := 200) hx hb dX5_copyElements_169 (by decide) (fun c55 => ?_) (fun c55 => ?_)
                    · have h := ite_t c55 h
                      refine lv_iconst (v := 0) hx hb dX5_copyElements_200 (by decide) ?_
                      obtain ⟨rfl, rfl⟩ := ret2 h; exact cw_iret hx hb hr hlocks hO dX5_copyElements_201
                    · have h := ite_f c55 h
                      refine lv_aload_n hx hb dX5_copyElements_172 rfl (lv_at hl 5 rfl) ?_
                      refine gf_Rows_elements hx hb hgw iwRows hown hK hO ha0 k9 dX5_copyElements_173 ?_
                      refine lv_aload_n hx hb dX5_copyElements_176 rfl (lv_at hl 5 rfl) ?_
                      refine lv_lload hx hb dX5_copyElements_177 (lv_at hl 0 rfl) ?_
                      refine lv_lload hx hb dX5_copyElements_179 (lv_at hl 1 rfl) ?_
                      obtain ⟨r56, st57, h58, h⟩ := bR_some h
                      refine cw_calli (va_runV (As := [.long r44, .long r41]) (rest := [.ref (ad (186 + 9 * a0))]) ⟨hx, hb, hml, hown, hts⟩ (c_Rows_placeOf l D A ad cA tb0 tb1 a0 ha0 r44 r41 st52 r56 st57 h58) (cwV 2 hts (gw_V w_ac50c630 w_512321e3 w_a4eb41e5 w_8bdbd0d2 w_5ae13e92) rfl rfl rfl (by decide +kernel) ⟨Nat.le_of_ble_eq_true rfl, Nat.le_of_ble_eq_true rfl⟩) (cw_preV (k := 185 + 9 * a0) (ci := 5) hK hO rfl (by have := ha0; omega) (cc_Rows ha0)) rfl rfl hl.1 rfl (lv_room (Nat.le_of_ble_eq_true rfl)) dX5_copyElements_181 ⟨Nat.zero_le _, Nat.zero_le _⟩) hO (fun H locs hO => ?_)
                      refine lv_aload_n hx hb dX5_copyElements_184 rfl (lv_at hl 5 rfl) ?_
                      refine gf_Rows_elements hx hb hgw iwRows hown hK hO ha0 k9 dX5_copyElements_185 ?_
                      refine lv_aload_n hx hb dX5_copyElements_188 rfl (lv_at hl 5 rfl) ?_
                      refine lv_lload hx hb dX5_copyElements_189 (lv_at hl 2 rfl) ?_
                      refine lv_lload_n hx hb dX5_copyElements_191 rfl (lv_at hl 3 rfl) ?_
                      obtain ⟨r59, st60, h61, h⟩ := bR_some h
                      refine cw_calli (va_runV (As := [.long r38, .long r35]) (rest := [.ref (ad (186 + 9 * a0)), .int r56, .ref (ad (186 + 9 * a0))]) ⟨hx, hb, hml, hown, hts⟩ (c_Rows_placeOf l D A ad cA tb0 tb1 a0 ha0 r38 r35 st57 r59 st60 h61) (cwV 2 hts (gw_V w_ac50c630 w_512321e3 w_a4eb41e5 w_8bdbd0d2 w_5ae13e92) rfl rfl rfl (by decide +kernel) ⟨Nat.le_of_ble_eq_true rfl, Nat.le_of_ble_eq_true rfl⟩) (cw_preV (k := 185 + 9 * a0) (ci := 5) hK hO rfl (by have := ha0; omega) (cc_Rows ha0)) rfl rfl hl.1 rfl (lv_room (Nat.le_of_ble_eq_true rfl)) dX5_copyElements_192 ⟨Nat.zero_le _, Nat.zero_le _⟩) hO (fun H locs hO => ?_)
                      refine lv_lload_n hx hb dX5_copyElements_195 rfl (lv_at hl 4 rfl) ?_
                      refine lv_l2i hx hb dX5_copyElements_196 rfl ?_
                      obtain ⟨hc62, h⟩ := ck_some h
                      refine ac_Elems_Elems hx hb (by rw [hml]; exact hl.1.symm) hown k51 (hgw _ w_a648c8f7) (hgw _ w_410d49e2) (hgw _ w_4260ffab) hK hO ha0 ha0 hc62 (Nat.le_of_ble_eq_true rfl) (Nat.le_of_ble_eq_true rfl) dX5_copyElements_197 (fun H locs hO => ?_)
                      refine lv_iconst (v := 0) hx hb dX5_copyElements_200 (by decide) ?_
                      obtain ⟨rfl, rfl⟩ := ret2 h; exact cw_iret hx hb hr hlocks hO dX5_copyElements_201
                  · have h := ite_t c54 h
                    refine lv_iconst (v := 3) hx hb dX5_copyElements_164 (by decide) ?_
                    obtain ⟨rfl, rfl⟩ := ret2 h; exact cw_iret hx hb hr hlocks hO dX5_copyElements_165
              · have h := ite_f c31 h
                refine lv_iconst (v := 4) hx hb dX5_copyElements_91 (by decide) ?_
                obtain ⟨rfl, rfl⟩ := ret2 h; exact cw_iret hx hb hr hlocks hO dX5_copyElements_92
          · have h := ite_t c20 h
            refine lv_iconst (v := 2) hx hb dX5_copyElements_59 (by decide) ?_
            obtain ⟨rfl, rfl⟩ := ret2 h; exact cw_iret hx hb hr hlocks hO dX5_copyElements_60
      · have h := ite_t c12 h
        refine lv_iconst (v := 4) hx hb dX5_copyElements_33 (by decide) ?_
        obtain ⟨rfl, rfl⟩ := ret2 h; exact cw_iret hx hb hr hlocks hO dX5_copyElements_34
