-- Frame begin
def j_Frame_begin (a0 : Nat) (a1 : Nat) (a2 : Int32) (a3 : Int32) (a4 : Int32) (st : CwS) : Option CwS :=
  some (sI (sI (sI (sI (sI (sI (sR st 0 a0 a1) 13 a0 0 a2) 14 a0 0 a3) 16 a0 0 a4) 15 a0 0 ((0 : Int32))) 12 a0 0 ((0 : Int32))) 18 a0 0 ((0 : Int32)))
set_option maxHeartbeats 4000000 in
set_option maxRecDepth 100000 in
theorem c_Frame_begin (l : Launch) (D : va_G) (A : Nat → Prop) (ad : Nat → Nat) (cA : Nat → ClassId) (tb0 tb1 : Nat) (a0 : Nat) (ha0 : a0 < 10) (a1 : Nat) (ha1 : a1 < 48) (a2 : Int32) (a3 : Int32) (a4 : Int32) (st : CwS) (st' : CwS) (h : j_Frame_begin a0 a1 a2 a3 a4 st = some st') : Met l yX2_begin (wv yX2_begin cX2_begin 5 (none)) ({ frames := 0, cells := 0, slots := 0, locals := 0 }) (va_Pc [.ref (ad (179 + 9 * a0)), .ref (ad (4 + 3 * a1)), .int a2, .int a3, .int a4] (cwU D A ad cA tb0 tb1 st)) (cwQv D A ad cA tb0 tb1 st') 0 0 A := by
  refine Met.ofW (cc := cX2_begin) (maxL := 5) (ret := none) (by decide) rfl ?_
  intro p e s m args below meth c s₁ B hml hv
  obtain ⟨rfl, hP, hK⟩ := hv
  have hx := B.exec
  have hb := B.bytes
  have hr := B.returns
  have hts := atoms_spec (ws := wv yX2_begin cX2_begin 5 (none)) B.pre
  have hown : s.vm.findClass RX2 = some m.cls := findClass_of_methodNamed B.named
  have hlocks := B.notSynchronized
  have hO : cwO D A ad cA s st s.heap [] := ⟨hP, va_S.rf⟩
  have hl := lv_entry ([.ref (ad (179 + 9 * a0)), .ref (ad (4 + 3 * a1)), .int a2, .int a3, .int a4]) (n := 5) (Nat.le_of_ble_eq_true rfl)
  rw [lg_entry_eq]
  generalize (lg_sl ([.ref (ad (179 + 9 * a0)), .ref (ad (4 + 3 * a1)), .int a2, .int a3, .int a4]) ++ List.replicate (5 - (lg_sl ([.ref (ad (179 + 9 * a0)), .ref (ad (4 + 3 * a1)), .int a2, .int a3, .int a4])).length) Slot.unset).toArray = ls at hl ⊢
  have hl : lv_has ls 5 [(0, .ref (ad (179 + 9 * a0))), (1, .ref (ad (4 + 3 * a1))), (2, .int a2), (3, .int a3), (4, .int a4)] := hl
  have _h0 := hO
  have hgw := fun (w : Cond) (h : w ∈ gwW) => hts w (List.mem_cons_of_mem _ h)
  have k18 := hgw _ w_f66d2fea
  have k22 := hgw _ w_69511b5c
  have k25 := hgw _ w_e3b0c746
  have k28 := hgw _ w_85cdfb7b
  have k31 := hgw _ w_b790a6d0
  have k34 := hgw _ w_99489c43
  have k41 := hgw _ w_bb005698
  have k54 := hgw _ w_ac97c914
  unfold j_Frame_begin at h
  refine lv_aload_n hx hb dX2_begin_0 rfl (lv_at hl 0 rfl) ?_
  refine lv_aload_n hx hb dX2_begin_1 rfl (lv_at hl 1 rfl) ?_
  refine pf_Frame_behaviour hx hb hgw iwFrame hown hK hO ha0 ha1 k34 dX2_begin_2 (fun H locs hO => ?_)
  refine lv_aload_n hx hb dX2_begin_5 rfl (lv_at hl 0 rfl) ?_
  refine lv_iload_n hx hb dX2_begin_6 rfl (lv_at hl 2 rfl) ?_
  refine pf_Frame_contract hx hb hgw iwFrame hown hK hO ha0 k22 dX2_begin_7 (fun H locs hO => ?_)
  refine lv_aload_n hx hb dX2_begin_10 rfl (lv_at hl 0 rfl) ?_
  refine lv_iload_n hx hb dX2_begin_11 rfl (lv_at hl 3 rfl) ?_
  refine pf_Frame_caller hx hb hgw iwFrame hown hK hO ha0 k25 dX2_begin_12 (fun H locs hO => ?_)
  refine lv_aload_n hx hb dX2_begin_15 rfl (lv_at hl 0 rfl) ?_
  refine lv_iload hx hb dX2_begin_16 (lv_at hl 4 rfl) ?_
  refine pf_Frame_stop hx hb hgw iwFrame hown hK hO ha0 k31 dX2_begin_18 (fun H locs hO => ?_)
  refine lv_aload_n hx hb dX2_begin_21 rfl (lv_at hl 0 rfl) ?_
  refine lv_iconst (v := 0) hx hb dX2_begin_22 (by decide) ?_
  refine pf_Frame_next hx hb hgw iwFrame hown hK hO ha0 k28 dX2_begin_23 (fun H locs hO => ?_)
  refine lv_aload_n hx hb dX2_begin_26 rfl (lv_at hl 0 rfl) ?_
  refine lv_iconst (v := 0) hx hb dX2_begin_27 (by decide) ?_
  refine pf_Frame_handlers hx hb hgw iwFrame hown hK hO ha0 k18 dX2_begin_28 (fun H locs hO => ?_)
  refine lv_aload_n hx hb dX2_begin_31 rfl (lv_at hl 0 rfl) ?_
  refine gf_Frame_pile hx hb hgw iwFrame hown hK hO ha0 k41 dX2_begin_32 ?_
  refine lv_iconst (v := 0) hx hb dX2_begin_35 (by decide) ?_
  refine pf_Pile_height hx hb hgw iwPile hown hK hO ha0 k54 dX2_begin_36 (fun H locs hO => ?_)
  cases h; exact cw_vret hx hb hr hlocks hO dX2_begin_39
-- Frame isAtEnd
def j_Frame_isAtEnd (a0 : Nat) (st : CwS) : Option (Int32 × CwS) :=
  if (gI st 15 a0 0) < ((0 : Int32)) then
    some ((1 : Int32), st)
  else
    ck (decide ((gR st 0 a0) < 48)) <|
    if (gI st 15 a0 0) < (gI st 2 (gR st 0 a0) 0) then
      some ((0 : Int32), st)
    else
      some ((1 : Int32), st)
set_option maxHeartbeats 4000000 in
set_option maxRecDepth 100000 in
theorem c_Frame_isAtEnd (l : Launch) (D : va_G) (A : Nat → Prop) (ad : Nat → Nat) (cA : Nat → ClassId) (tb0 tb1 : Nat) (a0 : Nat) (ha0 : a0 < 10) (st : CwS) (r : Int32) (st' : CwS) (h : j_Frame_isAtEnd a0 st = some (r, st')) : Met l yX2_isAtEnd (wv yX2_isAtEnd cX2_isAtEnd 1 (some .boolean)) ({ frames := 0, cells := 0, slots := 0, locals := 0 }) (va_Pc [.ref (ad (179 + 9 * a0))] (cwU D A ad cA tb0 tb1 st)) (cwQi D A ad cA tb0 tb1 r st') 0 0 A := by
  refine Met.ofW (cc := cX2_isAtEnd) (maxL := 1) (ret := some .boolean) (by decide) rfl ?_
  intro p e s m args below meth c s₁ B hml hv
  obtain ⟨rfl, hP, hK⟩ := hv
  have hx := B.exec
  have hb := B.bytes
  have hr := B.returns
  have hts := atoms_spec (ws := wv yX2_isAtEnd cX2_isAtEnd 1 (some .boolean)) B.pre
  have hown : s.vm.findClass RX2 = some m.cls := findClass_of_methodNamed B.named
  have hlocks := B.notSynchronized
  have hO : cwO D A ad cA s st s.heap [] := ⟨hP, va_S.rf⟩
  have hl := lv_entry ([.ref (ad (179 + 9 * a0))]) (n := 1) (Nat.le_of_ble_eq_true rfl)
  rw [lg_entry_eq]
  generalize (lg_sl ([.ref (ad (179 + 9 * a0))]) ++ List.replicate (1 - (lg_sl ([.ref (ad (179 + 9 * a0))])).length) Slot.unset).toArray = ls at hl ⊢
  have hl : lv_has ls 1 [(0, .ref (ad (179 + 9 * a0)))] := hl
  have _h0 := hO
  have hgw := fun (w : Cond) (h : w ∈ gwW) => hts w (List.mem_cons_of_mem _ h)
  have k28 := hgw _ w_85cdfb7b
  have k34 := hgw _ w_99489c43
  have k57 := hgw _ w_464bf442
  unfold j_Frame_isAtEnd at h
  refine lv_aload_n hx hb dX2_isAtEnd_0 rfl (lv_at hl 0 rfl) ?_
  refine gf_Frame_next hx hb hgw iwFrame hown hK hO ha0 k28 dX2_isAtEnd_1 ?_
  refine lv_if_lt (tgt := 21) hx hb dX2_isAtEnd_4 (by decide) (fun c1 => ?_) (fun c1 => ?_)
  · have h := ite_t c1 h
    refine lv_iconst (v := 1) hx hb dX2_isAtEnd_21 (by decide) ?_
    refine lv_goto (tgt := 26) hx hb dX2_isAtEnd_22 (by decide) ?_
    obtain ⟨rfl, rfl⟩ := ret2 h; exact cw_zret hx hb hr hlocks hO rfl dX2_isAtEnd_26
  · have h := ite_f c1 h
    refine lv_aload_n hx hb dX2_isAtEnd_7 rfl (lv_at hl 0 rfl) ?_
    refine gf_Frame_next hx hb hgw iwFrame hown hK hO ha0 k28 dX2_isAtEnd_8 ?_
    refine lv_aload_n hx hb dX2_isAtEnd_11 rfl (lv_at hl 0 rfl) ?_
    obtain ⟨hc2, h⟩ := ck_some h
    refine gf_Frame_behaviour hx hb hgw iwFrame hown hK hO ha0 k34 dX2_isAtEnd_12 ?_
    refine gf_Beh_count hx hb hgw iwBeh hown hK hO (ck_lt hc2) k57 dX2_isAtEnd_15 ?_
    refine lv_icmp_lt (tgt := 25) hx hb dX2_isAtEnd_18 (by decide) (fun c3 => ?_) (fun c3 => ?_)
    · have h := ite_t c3 h
      refine lv_iconst (v := 0) hx hb dX2_isAtEnd_25 (by decide) ?_
      obtain ⟨rfl, rfl⟩ := ret2 h; exact cw_zret hx hb hr hlocks hO rfl dX2_isAtEnd_26
    · have h := ite_f c3 h
      refine lv_iconst (v := 1) hx hb dX2_isAtEnd_21 (by decide) ?_
      refine lv_goto (tgt := 26) hx hb dX2_isAtEnd_22 (by decide) ?_
      obtain ⟨rfl, rfl⟩ := ret2 h; exact cw_zret hx hb hr hlocks hO rfl dX2_isAtEnd_26
-- Frame jump
def j_Frame_jump (a0 : Nat) (a1 : Int32) (st : CwS) : Option (Int32 × CwS) :=
  ck (decide ((gR st 0 a0) < 48)) <|
  bR (j_Beh_hasPlace ((gR st 0 a0)) a1 st) fun r2 st3 =>
  if r2 = ((0 : Int32)) then
    some ((12 : Int32), st3)
  else
    some ((0 : Int32), sI st3 15 a0 0 a1)
set_option maxHeartbeats 4000000 in
set_option maxRecDepth 100000 in
theorem c_Frame_jump (l : Launch) (D : va_G) (A : Nat → Prop) (ad : Nat → Nat) (cA : Nat → ClassId) (tb0 tb1 : Nat) (a0 : Nat) (ha0 : a0 < 10) (a1 : Int32) (st : CwS) (r : Int32) (st' : CwS) (h : j_Frame_jump a0 a1 st = some (r, st')) : Met l yX2_jump (wv yX2_jump cX2_jump 2 (some .int)) ({ frames := 1, cells := 0, slots := 0, locals := 21 }) (va_Pc [.ref (ad (179 + 9 * a0)), .int a1] (cwU D A ad cA tb0 tb1 st)) (cwQi D A ad cA tb0 tb1 r st') 0 0 A := by
  refine Met.ofW (cc := cX2_jump) (maxL := 2) (ret := some .int) (by decide) rfl ?_
  intro p e s m args below meth c s₁ B hml hv
  obtain ⟨rfl, hP, hK⟩ := hv
  have hx := B.exec
  have hb := B.bytes
  have hr := B.returns
  have hts := atoms_spec (ws := wv yX2_jump cX2_jump 2 (some .int)) B.pre
  have hown : s.vm.findClass RX2 = some m.cls := findClass_of_methodNamed B.named
  have hlocks := B.notSynchronized
  have hO : cwO D A ad cA s st s.heap [] := ⟨hP, va_S.rf⟩
  have hl := lv_entry ([.ref (ad (179 + 9 * a0)), .int a1]) (n := 2) (Nat.le_of_ble_eq_true rfl)
  rw [lg_entry_eq]
  generalize (lg_sl ([.ref (ad (179 + 9 * a0)), .int a1]) ++ List.replicate (2 - (lg_sl ([.ref (ad (179 + 9 * a0)), .int a1])).length) Slot.unset).toArray = ls at hl ⊢
  have hl : lv_has ls 2 [(0, .ref (ad (179 + 9 * a0))), (1, .int a1)] := hl
  have _h0 := hO
  have hgw := fun (w : Cond) (h : w ∈ gwW) => hts w (List.mem_cons_of_mem _ h)
  have k28 := hgw _ w_85cdfb7b
  have k34 := hgw _ w_99489c43
  unfold j_Frame_jump at h
  refine lv_aload_n hx hb dX2_jump_0 rfl (lv_at hl 0 rfl) ?_
  obtain ⟨hc1, h⟩ := ck_some h
  refine gf_Frame_behaviour hx hb hgw iwFrame hown hK hO ha0 k34 dX2_jump_1 ?_
  refine lv_iload_n hx hb dX2_jump_4 rfl (lv_at hl 1 rfl) ?_
  obtain ⟨r2, st3, h4, h⟩ := bR_some h
  refine cw_calli (va_runV (As := [.int a1]) (rest := []) ⟨hx, hb, hml, hown, hts⟩ (c_Beh_hasPlace l D A ad cA tb0 tb1 ((gR st 0 a0)) (ck_lt hc1) a1 st r2 st3 h4) (cwV 1 hts (gw_V w_73fb2ffd w_5a85a84b w_16f77c3b w_644e7304 w_185b0c4c) rfl rfl rfl (by decide +kernel) ⟨Nat.le_of_ble_eq_true rfl, Nat.le_of_ble_eq_true rfl⟩) (cw_preV (k := 4 + 3 * (gR st 0 a0)) (ci := 0) hK hO rfl (by have := (ck_lt hc1); omega) (cc_Beh (ck_lt hc1))) rfl rfl hl.1 rfl (lv_room (Nat.le_of_ble_eq_true rfl)) dX2_jump_5 ⟨Nat.zero_le _, Nat.zero_le _⟩) hO (fun H locs hO => ?_)
  refine lv_if_ne (tgt := 14) hx hb dX2_jump_8 (by decide) (fun c5 => ?_) (fun c5 => ?_)
  · have h := ite_f c5 h
    refine lv_aload_n hx hb dX2_jump_14 rfl (lv_at hl 0 rfl) ?_
    refine lv_iload_n hx hb dX2_jump_15 rfl (lv_at hl 1 rfl) ?_
    refine pf_Frame_next hx hb hgw iwFrame hown hK hO ha0 k28 dX2_jump_16 (fun H locs hO => ?_)
    refine lv_iconst (v := 0) hx hb dX2_jump_19 (by decide) ?_
    obtain ⟨rfl, rfl⟩ := ret2 h; exact cw_iret hx hb hr hlocks hO dX2_jump_20
  · have h := ite_t c5 h
    refine lv_bipush (v := 12) hx hb dX2_jump_11 (by decide) ?_
    obtain ⟨rfl, rfl⟩ := ret2 h; exact cw_iret hx hb hr hlocks hO dX2_jump_13
-- Frame addHandler
def j_Frame_addHandler (a0 : Nat) (a1 : Int32) (st : CwS) : Option (Int32 × CwS) :=
  ck (decide ((gR st 0 a0) < 48)) <|
  bR (j_Beh_hasPlace ((gR st 0 a0)) a1 st) fun r2 st3 =>
  if r2 = ((0 : Int32)) then
    some ((12 : Int32), st3)
  else
    if ((4 : Int32)) ≤ (gI st3 12 a0 0) then
      some ((11 : Int32), st3)
    else
      if (gI st3 18 a0 0) < ((12 : Int32)) then
        ck (ix (gI st3 12 a0 0) 4) <|
        ck (ix (gI (sI st3 10 a0 ((gI st3 12 a0 0).toNatClampNeg) a1) 12 a0 0) 4) <|
        some ((0 : Int32), sI (sI (sI st3 10 a0 ((gI st3 12 a0 0).toNatClampNeg) a1) 11 a0 ((gI (sI st3 10 a0 ((gI st3 12 a0 0).toNatClampNeg) a1) 12 a0 0).toNatClampNeg) (gI (sI st3 10 a0 ((gI st3 12 a0 0).toNatClampNeg) a1) 18 a0 0)) 12 a0 0 ((gI (sI (sI st3 10 a0 ((gI st3 12 a0 0).toNatClampNeg) a1) 11 a0 ((gI (sI st3 10 a0 ((gI st3 12 a0 0).toNatClampNeg) a1) 12 a0 0).toNatClampNeg) (gI (sI st3 10 a0 ((gI st3 12 a0 0).toNatClampNeg) a1) 18 a0 0)) 12 a0 0) + ((1 : Int32))))
      else
        some ((11 : Int32), st3)
set_option maxHeartbeats 4000000 in
set_option maxRecDepth 100000 in
theorem c_Frame_addHandler (l : Launch) (D : va_G) (A : Nat → Prop) (ad : Nat → Nat) (cA : Nat → ClassId) (tb0 tb1 : Nat) (a0 : Nat) (ha0 : a0 < 10) (a1 : Int32) (st : CwS) (r : Int32) (st' : CwS) (h : j_Frame_addHandler a0 a1 st = some (r, st')) : Met l yX2_addHandler (wv yX2_addHandler cX2_addHandler 2 (some .int)) ({ frames := 1, cells := 0, slots := 0, locals := 21 }) (va_Pc [.ref (ad (179 + 9 * a0)), .int a1] (cwU D A ad cA tb0 tb1 st)) (cwQi D A ad cA tb0 tb1 r st') 0 0 A := by
  refine Met.ofW (cc := cX2_addHandler) (maxL := 2) (ret := some .int) (by decide) rfl ?_
  intro p e s m args below meth c s₁ B hml hv
  obtain ⟨rfl, hP, hK⟩ := hv
  have hx := B.exec
  have hb := B.bytes
  have hr := B.returns
  have hts := atoms_spec (ws := wv yX2_addHandler cX2_addHandler 2 (some .int)) B.pre
  have hown : s.vm.findClass RX2 = some m.cls := findClass_of_methodNamed B.named
  have hlocks := B.notSynchronized
  have hO : cwO D A ad cA s st s.heap [] := ⟨hP, va_S.rf⟩
  have hl := lv_entry ([.ref (ad (179 + 9 * a0)), .int a1]) (n := 2) (Nat.le_of_ble_eq_true rfl)
  rw [lg_entry_eq]
  generalize (lg_sl ([.ref (ad (179 + 9 * a0)), .int a1]) ++ List.replicate (2 - (lg_sl ([.ref (ad (179 + 9 * a0)), .int a1])).length) Slot.unset).toArray = ls at hl ⊢
  have hl : lv_has ls 2 [(0, .ref (ad (179 + 9 * a0))), (1, .int a1)] := hl
  have _h0 := hO
  have hgw := fun (w : Cond) (h : w ∈ gwW) => hts w (List.mem_cons_of_mem _ h)
  have k9 := hgw _ w_a926dd89
  have k15 := hgw _ w_26449b3e
  have k18 := hgw _ w_f66d2fea
  have k34 := hgw _ w_99489c43
  have k41 := hgw _ w_bb005698
  have k54 := hgw _ w_ac97c914
  unfold j_Frame_addHandler at h
  refine lv_aload_n hx hb dX2_addHandler_0 rfl (lv_at hl 0 rfl) ?_
  obtain ⟨hc1, h⟩ := ck_some h
  refine gf_Frame_behaviour hx hb hgw iwFrame hown hK hO ha0 k34 dX2_addHandler_1 ?_
  refine lv_iload_n hx hb dX2_addHandler_4 rfl (lv_at hl 1 rfl) ?_
  obtain ⟨r2, st3, h4, h⟩ := bR_some h
  refine cw_calli (va_runV (As := [.int a1]) (rest := []) ⟨hx, hb, hml, hown, hts⟩ (c_Beh_hasPlace l D A ad cA tb0 tb1 ((gR st 0 a0)) (ck_lt hc1) a1 st r2 st3 h4) (cwV 1 hts (gw_V w_73fb2ffd w_5a85a84b w_16f77c3b w_644e7304 w_185b0c4c) rfl rfl rfl (by decide +kernel) ⟨Nat.le_of_ble_eq_true rfl, Nat.le_of_ble_eq_true rfl⟩) (cw_preV (k := 4 + 3 * (gR st 0 a0)) (ci := 0) hK hO rfl (by have := (ck_lt hc1); omega) (cc_Beh (ck_lt hc1))) rfl rfl hl.1 rfl (lv_room (Nat.le_of_ble_eq_true rfl)) dX2_addHandler_5 ⟨Nat.zero_le _, Nat.zero_le _⟩) hO (fun H locs hO => ?_)
  refine lv_if_ne (tgt := 14) hx hb dX2_addHandler_8 (by decide) (fun c5 => ?_) (fun c5 => ?_)
  · have h := ite_f c5 h
    refine lv_aload_n hx hb dX2_addHandler_14 rfl (lv_at hl 0 rfl) ?_
    refine gf_Frame_handlers hx hb hgw iwFrame hown hK hO ha0 k18 dX2_addHandler_15 ?_
    refine lv_iconst (v := 4) hx hb dX2_addHandler_18 (by decide) ?_
    refine lv_icmp_ge (tgt := 34) hx hb dX2_addHandler_19 (by decide) (fun c6 => ?_) (fun c6 => ?_)
    · have h := ite_t c6 h
      refine lv_bipush (v := 11) hx hb dX2_addHandler_34 (by decide) ?_
      obtain ⟨rfl, rfl⟩ := ret2 h; exact cw_iret hx hb hr hlocks hO dX2_addHandler_36
    · have h := ite_f c6 h
      refine lv_aload_n hx hb dX2_addHandler_22 rfl (lv_at hl 0 rfl) ?_
      refine gf_Frame_pile hx hb hgw iwFrame hown hK hO ha0 k41 dX2_addHandler_23 ?_
      refine gf_Pile_height hx hb hgw iwPile hown hK hO ha0 k54 dX2_addHandler_26 ?_
      refine lv_bipush (v := 12) hx hb dX2_addHandler_29 (by decide) ?_
      refine lv_icmp_lt (tgt := 37) hx hb dX2_addHandler_31 (by decide) (fun c7 => ?_) (fun c7 => ?_)
      · have h := ite_t c7 h
        refine lv_aload_n hx hb dX2_addHandler_37 rfl (lv_at hl 0 rfl) ?_
        refine gf_Frame_handlerSteps hx hb hgw iwFrame hown hK hO ha0 k9 dX2_addHandler_38 ?_
        refine lv_aload_n hx hb dX2_addHandler_41 rfl (lv_at hl 0 rfl) ?_
        refine gf_Frame_handlers hx hb hgw iwFrame hown hK hO ha0 k18 dX2_addHandler_42 ?_
        refine lv_iload_n hx hb dX2_addHandler_45 rfl (lv_at hl 1 rfl) ?_
        obtain ⟨hc8, h⟩ := ck_some h
        refine as_HSteps hx hb hK hO ha0 hc8 dX2_addHandler_46 (fun H locs hO => ?_)
        refine lv_aload_n hx hb dX2_addHandler_47 rfl (lv_at hl 0 rfl) ?_
        refine gf_Frame_handlerHeights hx hb hgw iwFrame hown hK hO ha0 k15 dX2_addHandler_48 ?_
        refine lv_aload_n hx hb dX2_addHandler_51 rfl (lv_at hl 0 rfl) ?_
        refine gf_Frame_handlers hx hb hgw iwFrame hown hK hO ha0 k18 dX2_addHandler_52 ?_
        refine lv_aload_n hx hb dX2_addHandler_55 rfl (lv_at hl 0 rfl) ?_
        refine gf_Frame_pile hx hb hgw iwFrame hown hK hO ha0 k41 dX2_addHandler_56 ?_
        refine gf_Pile_height hx hb hgw iwPile hown hK hO ha0 k54 dX2_addHandler_59 ?_
        obtain ⟨hc9, h⟩ := ck_some h
        refine as_HHeights hx hb hK hO ha0 hc9 dX2_addHandler_62 (fun H locs hO => ?_)
        refine lv_aload_n hx hb dX2_addHandler_63 rfl (lv_at hl 0 rfl) ?_
        refine lv_dup hx hb dX2_addHandler_64 rfl ?_
        refine gf_Frame_handlers hx hb hgw iwFrame hown hK hO ha0 k18 dX2_addHandler_65 ?_
        refine lv_iconst (v := 1) hx hb dX2_addHandler_68 (by decide) ?_
        refine lv_iadd hx hb dX2_addHandler_69 ?_
        refine pf_Frame_handlers hx hb hgw iwFrame hown hK hO ha0 k18 dX2_addHandler_70 (fun H locs hO => ?_)
        refine lv_iconst (v := 0) hx hb dX2_addHandler_73 (by decide) ?_
        obtain ⟨rfl, rfl⟩ := ret2 h; exact cw_iret hx hb hr hlocks hO dX2_addHandler_74
      · have h := ite_f c7 h
        refine lv_bipush (v := 11) hx hb dX2_addHandler_34 (by decide) ?_
        obtain ⟨rfl, rfl⟩ := ret2 h; exact cw_iret hx hb hr hlocks hO dX2_addHandler_36
  · have h := ite_t c5 h
    refine lv_bipush (v := 12) hx hb dX2_addHandler_11 (by decide) ?_
    obtain ⟨rfl, rfl⟩ := ret2 h; exact cw_iret hx hb hr hlocks hO dX2_addHandler_13
-- Frame dropHandler
def j_Frame_dropHandler (a0 : Nat) (st : CwS) : Option (Int32 × CwS) :=
  if ((0 : Int32)) < (gI st 12 a0 0) then
    some ((0 : Int32), sI st 12 a0 0 ((gI st 12 a0 0) - ((1 : Int32))))
  else
    some ((11 : Int32), st)
set_option maxHeartbeats 4000000 in
set_option maxRecDepth 100000 in
theorem c_Frame_dropHandler (l : Launch) (D : va_G) (A : Nat → Prop) (ad : Nat → Nat) (cA : Nat → ClassId) (tb0 tb1 : Nat) (a0 : Nat) (ha0 : a0 < 10) (st : CwS) (r : Int32) (st' : CwS) (h : j_Frame_dropHandler a0 st = some (r, st')) : Met l yX2_dropHandler (wv yX2_dropHandler cX2_dropHandler 1 (some .int)) ({ frames := 0, cells := 0, slots := 0, locals := 0 }) (va_Pc [.ref (ad (179 + 9 * a0))] (cwU D A ad cA tb0 tb1 st)) (cwQi D A ad cA tb0 tb1 r st') 0 0 A := by
  refine Met.ofW (cc := cX2_dropHandler) (maxL := 1) (ret := some .int) (by decide) rfl ?_
  intro p e s m args below meth c s₁ B hml hv
  obtain ⟨rfl, hP, hK⟩ := hv
  have hx := B.exec
  have hb := B.bytes
  have hr := B.returns
  have hts := atoms_spec (ws := wv yX2_dropHandler cX2_dropHandler 1 (some .int)) B.pre
  have hown : s.vm.findClass RX2 = some m.cls := findClass_of_methodNamed B.named
  have hlocks := B.notSynchronized
  have hO : cwO D A ad cA s st s.heap [] := ⟨hP, va_S.rf⟩
  have hl := lv_entry ([.ref (ad (179 + 9 * a0))]) (n := 1) (Nat.le_of_ble_eq_true rfl)
  rw [lg_entry_eq]
  generalize (lg_sl ([.ref (ad (179 + 9 * a0))]) ++ List.replicate (1 - (lg_sl ([.ref (ad (179 + 9 * a0))])).length) Slot.unset).toArray = ls at hl ⊢
  have hl : lv_has ls 1 [(0, .ref (ad (179 + 9 * a0)))] := hl
  have _h0 := hO
  have hgw := fun (w : Cond) (h : w ∈ gwW) => hts w (List.mem_cons_of_mem _ h)
  have k18 := hgw _ w_f66d2fea
  unfold j_Frame_dropHandler at h
  refine lv_aload_n hx hb dX2_dropHandler_0 rfl (lv_at hl 0 rfl) ?_
  refine gf_Frame_handlers hx hb hgw iwFrame hown hK hO ha0 k18 dX2_dropHandler_1 ?_
  refine lv_if_gt (tgt := 10) hx hb dX2_dropHandler_4 (by decide) (fun c1 => ?_) (fun c1 => ?_)
  · have h := ite_t c1 h
    refine lv_aload_n hx hb dX2_dropHandler_10 rfl (lv_at hl 0 rfl) ?_
    refine lv_dup hx hb dX2_dropHandler_11 rfl ?_
    refine gf_Frame_handlers hx hb hgw iwFrame hown hK hO ha0 k18 dX2_dropHandler_12 ?_
    refine lv_iconst (v := 1) hx hb dX2_dropHandler_15 (by decide) ?_
    refine lv_isub hx hb dX2_dropHandler_16 ?_
    refine pf_Frame_handlers hx hb hgw iwFrame hown hK hO ha0 k18 dX2_dropHandler_17 (fun H locs hO => ?_)
    refine lv_iconst (v := 0) hx hb dX2_dropHandler_20 (by decide) ?_
    obtain ⟨rfl, rfl⟩ := ret2 h; exact cw_iret hx hb hr hlocks hO dX2_dropHandler_21
  · have h := ite_f c1 h
    refine lv_bipush (v := 11) hx hb dX2_dropHandler_7 (by decide) ?_
    obtain ⟨rfl, rfl⟩ := ret2 h; exact cw_iret hx hb hr hlocks hO dX2_dropHandler_9
-- Frame handle
def j_Frame_handle (a0 : Nat) (a1 : Int32) (st : CwS) : Option (Int32 × CwS) :=
  if ((0 : Int32)) < (gI st 12 a0 0) then
    ck (ix (gI (sI st 12 a0 0 ((gI st 12 a0 0) - ((1 : Int32)))) 12 a0 0) 4) <|
    bR (j_Pile_putNumber a0 a1.toInt64 (sI (sI st 12 a0 0 ((gI st 12 a0 0) - ((1 : Int32)))) 18 a0 0 (if (gI (sI st 12 a0 0 ((gI st 12 a0 0) - ((1 : Int32)))) 11 a0 ((gI (sI st 12 a0 0 ((gI st 12 a0 0) - ((1 : Int32)))) 12 a0 0).toNatClampNeg)) < (gI (sI st 12 a0 0 ((gI st 12 a0 0) - ((1 : Int32)))) 18 a0 0) then (gI (sI st 12 a0 0 ((gI st 12 a0 0) - ((1 : Int32)))) 11 a0 ((gI (sI st 12 a0 0 ((gI st 12 a0 0) - ((1 : Int32)))) 12 a0 0).toNatClampNeg)) else (gI (sI st 12 a0 0 ((gI st 12 a0 0) - ((1 : Int32)))) 18 a0 0)))) fun r3 st4 =>
    ck (ix (gI st4 12 a0 0) 4) <|
    some ((1 : Int32), sI st4 15 a0 0 (gI st4 10 a0 ((gI st4 12 a0 0).toNatClampNeg)))
  else
    some ((0 : Int32), st)
set_option maxHeartbeats 4000000 in
set_option maxRecDepth 100000 in
theorem c_Frame_handle (l : Launch) (D : va_G) (A : Nat → Prop) (ad : Nat → Nat) (cA : Nat → ClassId) (tb0 tb1 : Nat) (a0 : Nat) (ha0 : a0 < 10) (a1 : Int32) (st : CwS) (r : Int32) (st' : CwS) (h : j_Frame_handle a0 a1 st = some (r, st')) : Met l yX2_handle (wv yX2_handle cX2_handle 2 (some .boolean)) ({ frames := 2, cells := 0, slots := 0, locals := 45 }) (va_Pc [.ref (ad (179 + 9 * a0)), .int a1] (cwU D A ad cA tb0 tb1 st)) (cwQi D A ad cA tb0 tb1 r st') 0 0 A := by
  refine Met.ofW (cc := cX2_handle) (maxL := 2) (ret := some .boolean) (by decide) rfl ?_
  intro p e s m args below meth c s₁ B hml hv
  obtain ⟨rfl, hP, hK⟩ := hv
  have hx := B.exec
  have hb := B.bytes
  have hr := B.returns
  have hts := atoms_spec (ws := wv yX2_handle cX2_handle 2 (some .boolean)) B.pre
  have hown : s.vm.findClass RX2 = some m.cls := findClass_of_methodNamed B.named
  have hlocks := B.notSynchronized
  have hO : cwO D A ad cA s st s.heap [] := ⟨hP, va_S.rf⟩
  have hl := lv_entry ([.ref (ad (179 + 9 * a0)), .int a1]) (n := 2) (Nat.le_of_ble_eq_true rfl)
  rw [lg_entry_eq]
  generalize (lg_sl ([.ref (ad (179 + 9 * a0)), .int a1]) ++ List.replicate (2 - (lg_sl ([.ref (ad (179 + 9 * a0)), .int a1])).length) Slot.unset).toArray = ls at hl ⊢
  have hl : lv_has ls 2 [(0, .ref (ad (179 + 9 * a0))), (1, .int a1)] := hl
  have _h0 := hO
  have hgw := fun (w : Cond) (h : w ∈ gwW) => hts w (List.mem_cons_of_mem _ h)
  have k9 := hgw _ w_a926dd89
  have k15 := hgw _ w_26449b3e
  have k18 := hgw _ w_f66d2fea
  have k28 := hgw _ w_85cdfb7b
  have k41 := hgw _ w_bb005698
  have k54 := hgw _ w_ac97c914
  have k66 := hgw _ w_dbdba080
  unfold j_Frame_handle at h
  refine lv_aload_n hx hb dX2_handle_0 rfl (lv_at hl 0 rfl) ?_
  refine gf_Frame_handlers hx hb hgw iwFrame hown hK hO ha0 k18 dX2_handle_1 ?_
  refine lv_if_gt (tgt := 9) hx hb dX2_handle_4 (by decide) (fun c1 => ?_) (fun c1 => ?_)
  · have h := ite_t c1 h
    refine lv_aload_n hx hb dX2_handle_9 rfl (lv_at hl 0 rfl) ?_
    refine lv_dup hx hb dX2_handle_10 rfl ?_
    refine gf_Frame_handlers hx hb hgw iwFrame hown hK hO ha0 k18 dX2_handle_11 ?_
    refine lv_iconst (v := 1) hx hb dX2_handle_14 (by decide) ?_
    refine lv_isub hx hb dX2_handle_15 ?_
    refine pf_Frame_handlers hx hb hgw iwFrame hown hK hO ha0 k18 dX2_handle_16 (fun H locs hO => ?_)
    refine lv_aload_n hx hb dX2_handle_19 rfl (lv_at hl 0 rfl) ?_
    refine gf_Frame_pile hx hb hgw iwFrame hown hK hO ha0 k41 dX2_handle_20 ?_
    refine lv_aload_n hx hb dX2_handle_23 rfl (lv_at hl 0 rfl) ?_
    refine gf_Frame_pile hx hb hgw iwFrame hown hK hO ha0 k41 dX2_handle_24 ?_
    refine gf_Pile_height hx hb hgw iwPile hown hK hO ha0 k54 dX2_handle_27 ?_
    refine lv_aload_n hx hb dX2_handle_30 rfl (lv_at hl 0 rfl) ?_
    refine gf_Frame_handlerHeights hx hb hgw iwFrame hown hK hO ha0 k15 dX2_handle_31 ?_
    refine lv_aload_n hx hb dX2_handle_34 rfl (lv_at hl 0 rfl) ?_
    refine gf_Frame_handlers hx hb hgw iwFrame hown hK hO ha0 k18 dX2_handle_35 ?_
    obtain ⟨hc2, h⟩ := ck_some h
    refine al_HHeights hx hb hK hO ha0 hc2 dX2_handle_38 ?_
    refine va_mmin hx hb (by rw [hml]; exact hl.1.symm) hown k66 (hgw _ w_79b26afc) (hgw _ w_868a9286) (hgw _ w_0fd793e2) (Nat.le_of_ble_eq_true rfl) (Nat.le_of_ble_eq_true rfl) (Nat.zero_le _) (Nat.zero_le _) dX2_handle_39 ?_
    refine pf_Pile_height hx hb hgw iwPile hown hK hO ha0 k54 dX2_handle_42 (fun H locs hO => ?_)
    refine lv_aload_n hx hb dX2_handle_45 rfl (lv_at hl 0 rfl) ?_
    refine gf_Frame_pile hx hb hgw iwFrame hown hK hO ha0 k41 dX2_handle_46 ?_
    refine lv_iload_n hx hb dX2_handle_49 rfl (lv_at hl 1 rfl) ?_
    refine lv_i2l hx hb dX2_handle_50 rfl ?_
    obtain ⟨r3, st4, h5, h⟩ := bR_some h
    refine cw_calli (va_runV (As := [.long a1.toInt64]) (rest := []) ⟨hx, hb, hml, hown, hts⟩ (c_Pile_putNumber l D A ad cA tb0 tb1 a0 ha0 a1.toInt64 (sI (sI st 12 a0 0 ((gI st 12 a0 0) - ((1 : Int32)))) 18 a0 0 (if (gI (sI st 12 a0 0 ((gI st 12 a0 0) - ((1 : Int32)))) 11 a0 ((gI (sI st 12 a0 0 ((gI st 12 a0 0) - ((1 : Int32)))) 12 a0 0).toNatClampNeg)) < (gI (sI st 12 a0 0 ((gI st 12 a0 0) - ((1 : Int32)))) 18 a0 0) then (gI (sI st 12 a0 0 ((gI st 12 a0 0) - ((1 : Int32)))) 11 a0 ((gI (sI st 12 a0 0 ((gI st 12 a0 0) - ((1 : Int32)))) 12 a0 0).toNatClampNeg)) else (gI (sI st 12 a0 0 ((gI st 12 a0 0) - ((1 : Int32)))) 18 a0 0))) r3 st4 h5) (cwV 1 hts (gw_V w_35bd17b4 w_34c9ad22 w_9e5e849e w_76c797a4 w_03086df0) rfl rfl rfl (by decide +kernel) ⟨Nat.le_of_ble_eq_true rfl, Nat.le_of_ble_eq_true rfl⟩) (cw_preV (k := 182 + 9 * a0) (ci := 4) hK hO rfl (by have := ha0; omega) (cc_Pile ha0)) rfl rfl hl.1 rfl (lv_room (Nat.le_of_ble_eq_true rfl)) dX2_handle_51 ⟨Nat.zero_le _, Nat.zero_le _⟩) hO (fun H locs hO => ?_)
    refine lv_pop hx hb dX2_handle_54 rfl ?_
    refine lv_aload_n hx hb dX2_handle_55 rfl (lv_at hl 0 rfl) ?_
    refine lv_aload_n hx hb dX2_handle_56 rfl (lv_at hl 0 rfl) ?_
    refine gf_Frame_handlerSteps hx hb hgw iwFrame hown hK hO ha0 k9 dX2_handle_57 ?_
    refine lv_aload_n hx hb dX2_handle_60 rfl (lv_at hl 0 rfl) ?_
    refine gf_Frame_handlers hx hb hgw iwFrame hown hK hO ha0 k18 dX2_handle_61 ?_
    obtain ⟨hc6, h⟩ := ck_some h
    refine al_HSteps hx hb hK hO ha0 hc6 dX2_handle_64 ?_
    refine pf_Frame_next hx hb hgw iwFrame hown hK hO ha0 k28 dX2_handle_65 (fun H locs hO => ?_)
    refine lv_iconst (v := 1) hx hb dX2_handle_68 (by decide) ?_
    obtain ⟨rfl, rfl⟩ := ret2 h; exact cw_zret hx hb hr hlocks hO rfl dX2_handle_69
  · have h := ite_f c1 h
    refine lv_iconst (v := 0) hx hb dX2_handle_7 (by decide) ?_
    obtain ⟨rfl, rfl⟩ := ret2 h; exact cw_zret hx hb hr hlocks hO rfl dX2_handle_8
