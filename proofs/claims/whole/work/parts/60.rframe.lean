-- CallWalkerModel$Frame begin
def j_MF_begin (a0 : Nat) (a1 : Int32) (a2 : Int32) (a3 : Int32) (a4 : Int32) (st : CwS) : Option CwS :=
  some (sL (sI (sI (sI (sI (sI (sI (sI st 14 a0 0 a1) 15 a0 0 a2) 16 a0 0 a3) 17 a0 0 a4) 18 a0 0 ((0 : Int32))) 19 a0 0 ((0 : Int32))) 20 a0 0 ((0 : Int32))) 4 a0 0 ((0 : Int64)))
set_option maxHeartbeats 4000000 in
theorem x_MF_begin {a0 : Nat} {a1 : Int32} {a2 : Int32} {a3 : Int32} {a4 : Int32} {st : CwS} {st' : CwS} (h : j_MF_begin a0 a1 a2 a3 a4 st = some st') : Ext st st' := by
  unfold j_MF_begin at h
  rw [← Option.some.inj h]; exact (show Ext st _ from Ext.refl st)
set_option maxHeartbeats 4000000 in
set_option maxRecDepth 100000 in
theorem c_MF_begin (l : Launch) (D : va_G) (A : Nat → Prop) (b0 : Nat) (cA : Nat → ClassId) (st : CwS) (a0 : Nat) (fa0 : Nat) (hf_fa0 : rfF st a0 fa0) (a1 : Int32) (a2 : Int32) (a3 : Int32) (a4 : Int32) (st' : CwS) (h : j_MF_begin a0 a1 a2 a3 a4 st = some st') : Met l yX8_begin (wv yX8_begin cX8_begin 5 (none)) ({ frames := 0, cells := 0, slots := 0, locals := 0 }) (va_Pc [.ref fa0, .int a1, .int a2, .int a3, .int a4] (rfU D A b0 cA st)) (rfQv D A b0 cA st') (0) (0) A := by
  refine Met.ofW (cc := cX8_begin) (maxL := 5) (ret := none) (by decide) rfl ?_
  intro p e s m args below meth c s₁ B hml hv
  obtain ⟨rfl, hP, hD, hz, hK⟩ := hv
  have hx := B.exec
  have hb := B.bytes
  have hr := B.returns
  have hts := atoms_spec (ws := wv yX8_begin cX8_begin 5 (none)) B.pre
  have hown : s.vm.findClass RX8 = some m.cls := findClass_of_methodNamed B.named
  have hlocks := B.notSynchronized
  have hO : rfO D A b0 cA s st s.heap [] := ⟨hP, hD, va_S.rf, hz⟩
  have hl := lv_entry ([.ref fa0, .int a1, .int a2, .int a3, .int a4]) (n := 5) (Nat.le_of_ble_eq_true rfl)
  rw [lg_entry_eq]
  generalize (lg_sl ([.ref fa0, .int a1, .int a2, .int a3, .int a4]) ++ List.replicate (5 - (lg_sl ([.ref fa0, .int a1, .int a2, .int a3, .int a4])).length) Slot.unset).toArray = ls at hl ⊢
  have hl : lv_has ls 5 [(0, .ref fa0), (1, .int a1), (2, .int a2), (3, .int a3), (4, .int a4)] := hl
  have hgw := fun (w : Cond) (h : w ∈ gwW) => hts w (List.mem_cons_of_mem _ h)
  have k36 := hgw _ w_f534f462
  have k40 := hgw _ w_d156a30d
  have k43 := hgw _ w_68aa3f08
  have k46 := hgw _ w_1beeec8a
  have k49 := hgw _ w_339f41fd
  have k52 := hgw _ w_79571998
  have k55 := hgw _ w_f46cc939
  have k58 := hgw _ w_a20c8b9c
  unfold j_MF_begin at h
  refine lv_aload_n hx hb dX8_begin_0 rfl (lv_at hl 0 rfl) ?_
  refine lv_iload_n hx hb dX8_begin_1 rfl (lv_at hl 1 rfl) ?_
  refine pf_MF_contract hx hb hgw iwMF hown hK hO hf_fa0 k36 dX8_begin_2 (fun H locs hO => ?_)
  refine lv_aload_n hx hb dX8_begin_5 rfl (lv_at hl 0 rfl) ?_
  refine lv_iload_n hx hb dX8_begin_6 rfl (lv_at hl 2 rfl) ?_
  refine pf_MF_caller hx hb hgw iwMF hown hK hO hf_fa0 k40 dX8_begin_7 (fun H locs hO => ?_)
  refine lv_aload_n hx hb dX8_begin_10 rfl (lv_at hl 0 rfl) ?_
  refine lv_iload_n hx hb dX8_begin_11 rfl (lv_at hl 3 rfl) ?_
  refine pf_MF_behaviour hx hb hgw iwMF hown hK hO hf_fa0 k43 dX8_begin_12 (fun H locs hO => ?_)
  refine lv_aload_n hx hb dX8_begin_15 rfl (lv_at hl 0 rfl) ?_
  refine lv_iload hx hb dX8_begin_16 (lv_at hl 4 rfl) ?_
  refine pf_MF_limit hx hb hgw iwMF hown hK hO hf_fa0 k46 dX8_begin_18 (fun H locs hO => ?_)
  refine lv_aload_n hx hb dX8_begin_21 rfl (lv_at hl 0 rfl) ?_
  refine lv_iconst (v := 0) hx hb dX8_begin_22 (by decide) ?_
  refine pf_MF_high hx hb hgw iwMF hown hK hO hf_fa0 k49 dX8_begin_23 (fun H locs hO => ?_)
  refine lv_aload_n hx hb dX8_begin_26 rfl (lv_at hl 0 rfl) ?_
  refine lv_iconst (v := 0) hx hb dX8_begin_27 (by decide) ?_
  refine pf_MF_handlers hx hb hgw iwMF hown hK hO hf_fa0 k52 dX8_begin_28 (fun H locs hO => ?_)
  refine lv_aload_n hx hb dX8_begin_31 rfl (lv_at hl 0 rfl) ?_
  refine lv_iconst (v := 0) hx hb dX8_begin_32 (by decide) ?_
  refine pf_MF_at hx hb hgw iwMF hown hK hO hf_fa0 k55 dX8_begin_33 (fun H locs hO => ?_)
  refine lv_aload_n hx hb dX8_begin_36 rfl (lv_at hl 0 rfl) ?_
  refine lv_lconst (v := 0) hx hb dX8_begin_37 (by decide) ?_
  refine pf_MF_gives hx hb hgw iwMF hown hK hO hf_fa0 k58 dX8_begin_38 (fun H locs hO => ?_)
  cases h; exact rf_vret hx hb hr hlocks hO dX8_begin_41
-- CallWalkerModel$Frame push
def j_MF_push (a0 : Nat) (a1 : Int32) (a2 : Int64) (a4 : Nat) (st : CwS) : Option CwS :=
  ck (ix (gI st 18 a0 0) 13) <|
  ck (ix (gI (sI st 21 a0 ((gI st 18 a0 0).toNatClampNeg) a1) 18 a0 0) 13) <|
  ck (decide (a4 = 0) || isRow (sL (sI st 21 a0 ((gI st 18 a0 0).toNatClampNeg) a1) 7 a0 ((gI (sI st 21 a0 ((gI st 18 a0 0).toNatClampNeg) a1) 18 a0 0).toNatClampNeg) a2) a4) <|
  ck (ix (gI (sL (sI st 21 a0 ((gI st 18 a0 0).toNatClampNeg) a1) 7 a0 ((gI (sI st 21 a0 ((gI st 18 a0 0).toNatClampNeg) a1) 18 a0 0).toNatClampNeg) a2) 18 a0 0) 13) <|
  some (sI (sR (sL (sI st 21 a0 ((gI st 18 a0 0).toNatClampNeg) a1) 7 a0 ((gI (sI st 21 a0 ((gI st 18 a0 0).toNatClampNeg) a1) 18 a0 0).toNatClampNeg) a2) 50 (16 * a0 + ((gI (sL (sI st 21 a0 ((gI st 18 a0 0).toNatClampNeg) a1) 7 a0 ((gI (sI st 21 a0 ((gI st 18 a0 0).toNatClampNeg) a1) 18 a0 0).toNatClampNeg) a2) 18 a0 0).toNatClampNeg)) a4) 18 a0 0 ((gI (sR (sL (sI st 21 a0 ((gI st 18 a0 0).toNatClampNeg) a1) 7 a0 ((gI (sI st 21 a0 ((gI st 18 a0 0).toNatClampNeg) a1) 18 a0 0).toNatClampNeg) a2) 50 (16 * a0 + ((gI (sL (sI st 21 a0 ((gI st 18 a0 0).toNatClampNeg) a1) 7 a0 ((gI (sI st 21 a0 ((gI st 18 a0 0).toNatClampNeg) a1) 18 a0 0).toNatClampNeg) a2) 18 a0 0).toNatClampNeg)) a4) 18 a0 0) + ((1 : Int32))))
set_option maxHeartbeats 4000000 in
theorem x_MF_push {a0 : Nat} {a1 : Int32} {a2 : Int64} {a4 : Nat} {st : CwS} {st' : CwS} (h : j_MF_push a0 a1 a2 a4 st = some st') : Ext st st' := by
  unfold j_MF_push at h
  obtain ⟨-, h⟩ := ck_some h
  obtain ⟨-, h⟩ := ck_some h
  obtain ⟨-, h⟩ := ck_some h
  obtain ⟨-, h⟩ := ck_some h
  rw [← Option.some.inj h]; exact (show Ext st _ from Ext.refl st)
set_option maxHeartbeats 4000000 in
set_option maxRecDepth 100000 in
theorem c_MF_push (l : Launch) (D : va_G) (A : Nat → Prop) (b0 : Nat) (cA : Nat → ClassId) (st : CwS) (a0 : Nat) (fa0 : Nat) (hf_fa0 : rfF st a0 fa0) (a1 : Int32) (a2 : Int64) (a4 : Nat) (st' : CwS) (h : j_MF_push a0 a1 a2 a4 st = some st') : Met l yX8_push (wv yX8_push cX8_push 5 (none)) ({ frames := 0, cells := 0, slots := 0, locals := 0 }) (va_Pc [.ref fa0, .int a1, .long a2, rq a4] (rfU D A b0 cA st)) (rfQv D A b0 cA st') (0) (0) A := by
  refine Met.ofW (cc := cX8_push) (maxL := 5) (ret := none) (by decide) rfl ?_
  intro p e s m args below meth c s₁ B hml hv
  obtain ⟨rfl, hP, hD, hz, hK⟩ := hv
  have hx := B.exec
  have hb := B.bytes
  have hr := B.returns
  have hts := atoms_spec (ws := wv yX8_push cX8_push 5 (none)) B.pre
  have hown : s.vm.findClass RX8 = some m.cls := findClass_of_methodNamed B.named
  have hlocks := B.notSynchronized
  have hO : rfO D A b0 cA s st s.heap [] := ⟨hP, hD, va_S.rf, hz⟩
  have hl : lv_has ((lg_sl ([.ref fa0, .int a1, .long a2, rq a4]) ++ List.replicate (5 - (lg_sl ([.ref fa0, .int a1, .long a2, rq a4])).length) Slot.unset).toArray) 5 [(0, .ref fa0), (1, .int a1), (2, .long a2), (4, rq a4)] := by cases a4 <;> exact lv_entry _ (n := 5) (Nat.le_of_ble_eq_true rfl)
  rw [lg_entry_eq]
  generalize (lg_sl ([.ref fa0, .int a1, .long a2, rq a4]) ++ List.replicate (5 - (lg_sl ([.ref fa0, .int a1, .long a2, rq a4])).length) Slot.unset).toArray = ls at hl ⊢
  have hl : lv_has ls 5 [(0, .ref fa0), (1, .int a1), (2, .long a2), (4, rq a4)] := hl
  have hgw := fun (w : Cond) (h : w ∈ gwW) => hts w (List.mem_cons_of_mem _ h)
  have k18 := hgw _ w_e9c6df78
  have k22 := hgw _ w_5700fb43
  have k26 := hgw _ w_2acdb605
  have k49 := hgw _ w_339f41fd
  unfold j_MF_push at h
  refine lv_aload_n hx hb dX8_push_0 rfl (lv_at hl 0 rfl) ?_
  refine gf_MF_sorts hx hb hgw iwMF hown hK hO hf_fa0 k18 dX8_push_1 ?_
  refine lv_aload_n hx hb dX8_push_4 rfl (lv_at hl 0 rfl) ?_
  refine gf_MF_high hx hb hgw iwMF hown hK hO hf_fa0 k49 dX8_push_5 ?_
  refine lv_iload_n hx hb dX8_push_8 rfl (lv_at hl 1 rfl) ?_
  obtain ⟨hc1, h⟩ := ck_some h
  refine as_MSorts hx hb hK hO hf_fa0 hc1 dX8_push_9 (fun H locs hO => ?_)
  refine lv_aload_n hx hb dX8_push_10 rfl (lv_at hl 0 rfl) ?_
  refine gf_MF_n hx hb hgw iwMF hown hK hO hf_fa0 k22 dX8_push_11 ?_
  refine lv_aload_n hx hb dX8_push_14 rfl (lv_at hl 0 rfl) ?_
  refine gf_MF_high hx hb hgw iwMF hown hK hO hf_fa0 k49 dX8_push_15 ?_
  refine lv_lload_n hx hb dX8_push_18 rfl (lv_at hl 2 rfl) ?_
  obtain ⟨hc2, h⟩ := ck_some h
  refine as_MN hx hb hK hO hf_fa0 hc2 dX8_push_19 (fun H locs hO => ?_)
  refine lv_aload_n hx hb dX8_push_20 rfl (lv_at hl 0 rfl) ?_
  refine gf_MF_rows hx hb hgw iwMF hown hK hO hf_fa0 k26 dX8_push_21 ?_
  refine lv_aload_n hx hb dX8_push_24 rfl (lv_at hl 0 rfl) ?_
  refine gf_MF_high hx hb hgw iwMF hown hK hO hf_fa0 k49 dX8_push_25 ?_
  refine rq_aload hx hb dX8_push_28 (lv_at hl 3 rfl) ?_
  obtain ⟨hc3, h⟩ := ck_some h
  obtain ⟨hc4, h⟩ := ck_some h
  refine as_MRows hx hb hK hO hf_fa0 (rq_or hc3) hc4 dX8_push_30 (fun H locs hO => ?_)
  refine lv_aload_n hx hb dX8_push_31 rfl (lv_at hl 0 rfl) ?_
  refine lv_dup hx hb dX8_push_32 rfl ?_
  refine gf_MF_high hx hb hgw iwMF hown hK hO hf_fa0 k49 dX8_push_33 ?_
  refine lv_iconst (v := 1) hx hb dX8_push_36 (by decide) ?_
  refine lv_iadd hx hb dX8_push_37 ?_
  refine pf_MF_high hx hb hgw iwMF hown hK hO hf_fa0 k49 dX8_push_38 (fun H locs hO => ?_)
  cases h; exact rf_vret hx hb hr hlocks hO dX8_push_41
-- CallWalkerModel$Frame number
def j_MF_number (a0 : Nat) (a1 : Int64) (st : CwS) : Option CwS :=
  bV (j_MF_push a0 ((0 : Int32)) a1 0 st) fun st2 =>
  some st2
set_option maxHeartbeats 4000000 in
theorem x_MF_number {a0 : Nat} {a1 : Int64} {st : CwS} {st' : CwS} (h : j_MF_number a0 a1 st = some st') : Ext st st' := by
  unfold j_MF_number at h
  obtain ⟨st2, h3, h⟩ := bV_some h
  refine Ext.trans (a := st) (b := st2) (by have t := x_MF_push h3; exact t) ?_
  rw [← Option.some.inj h]; exact (show Ext st2 _ from Ext.refl st2)
set_option maxHeartbeats 4000000 in
set_option maxRecDepth 100000 in
theorem c_MF_number (l : Launch) (D : va_G) (A : Nat → Prop) (b0 : Nat) (cA : Nat → ClassId) (st : CwS) (a0 : Nat) (fa0 : Nat) (hf_fa0 : rfF st a0 fa0) (a1 : Int64) (st' : CwS) (h : j_MF_number a0 a1 st = some st') : Met l yX8_number (wv yX8_number cX8_number 3 (none)) ({ frames := 1, cells := 0, slots := 0, locals := 24 }) (va_Pc [.ref fa0, .long a1] (rfU D A b0 cA st)) (rfQv D A b0 cA st') (0) (0) A := by
  refine Met.ofW (cc := cX8_number) (maxL := 3) (ret := none) (by decide) rfl ?_
  intro p e s m args below meth c s₁ B hml hv
  obtain ⟨rfl, hP, hD, hz, hK⟩ := hv
  have hx := B.exec
  have hb := B.bytes
  have hr := B.returns
  have hts := atoms_spec (ws := wv yX8_number cX8_number 3 (none)) B.pre
  have hown : s.vm.findClass RX8 = some m.cls := findClass_of_methodNamed B.named
  have hlocks := B.notSynchronized
  have hO : rfO D A b0 cA s st s.heap [] := ⟨hP, hD, va_S.rf, hz⟩
  have hl := lv_entry ([.ref fa0, .long a1]) (n := 3) (Nat.le_of_ble_eq_true rfl)
  rw [lg_entry_eq]
  generalize (lg_sl ([.ref fa0, .long a1]) ++ List.replicate (3 - (lg_sl ([.ref fa0, .long a1])).length) Slot.unset).toArray = ls at hl ⊢
  have hl : lv_has ls 3 [(0, .ref fa0), (1, .long a1)] := hl
  have hgw := fun (w : Cond) (h : w ∈ gwW) => hts w (List.mem_cons_of_mem _ h)
  unfold j_MF_number at h
  refine lv_aload_n hx hb dX8_number_0 rfl (lv_at hl 0 rfl) ?_
  refine lv_iconst (v := 0) hx hb dX8_number_1 (by decide) ?_
  refine lv_lload_n hx hb dX8_number_2 rfl (lv_at hl 1 rfl) ?_
  refine lv_null hx hb dX8_number_3 ?_
  obtain ⟨st2, h3, h⟩ := bV_some h
  have x_st2 : Ext st st2 := by have t := x_MF_push h3; exact t
  refine rf_callv (va_runV (As := [.int ((0 : Int32)), .long a1, rq 0]) (rest := []) ⟨hx, hb, hml, hown, hts⟩ (c_MF_push l D A b0 cA st a0 fa0 hf_fa0 ((0 : Int32)) a1 0 st2 h3) (cwV 3 hts (gw_V w_f8dda819 w_e0cb4f46 w_a23f96d7 w_18ea82d2 w_3edceb25) rfl rfl rfl (by decide +kernel) ⟨by show 0 + 1 ≤ 1; omega, by show 8 + (5 + 11) + (0) ≤ 24; omega⟩) (rf_preF hf_fa0 hK hO) rfl rfl hl.1 rfl (lv_room (Nat.le_of_ble_eq_true rfl)) dX8_number_4 ⟨Nat.zero_le _, Nat.zero_le _⟩) hO (fun H locs hO => ?_)
  have hf_fa0 : rfF st2 a0 fa0 := rfF.ext (show rfF st a0 fa0 from hf_fa0) x_st2
  cases h; exact rf_vret hx hb hr hlocks hO dX8_number_7
-- CallWalkerModel$Frame isNumber
def j_MF_isNumber (a0 : Nat) (a1 : Int32) (st : CwS) : Option (Int32 × CwS) :=
  ck (ix a1 13) <|
  if (gI st 21 a0 a1.toNatClampNeg) = ((0 : Int32)) then
    some ((1 : Int32), st)
  else
    some ((0 : Int32), st)
set_option maxHeartbeats 4000000 in
theorem x_MF_isNumber {a0 : Nat} {a1 : Int32} {st : CwS} {r : Int32} {st' : CwS} (h : j_MF_isNumber a0 a1 st = some (r, st')) : Ext st st' := by
  unfold j_MF_isNumber at h
  obtain ⟨-, h⟩ := ck_some h
  by_cases c2 : (gI st 21 a0 a1.toNatClampNeg) = ((0 : Int32))
  · have h := ite_t c2 h
    obtain ⟨-, rfl⟩ := ret2 h; exact (show Ext st _ from Ext.refl st)
  · have h := ite_f c2 h
    obtain ⟨-, rfl⟩ := ret2 h; exact (show Ext st _ from Ext.refl st)
set_option maxHeartbeats 4000000 in
set_option maxRecDepth 100000 in
theorem c_MF_isNumber (l : Launch) (D : va_G) (A : Nat → Prop) (b0 : Nat) (cA : Nat → ClassId) (st : CwS) (a0 : Nat) (fa0 : Nat) (hf_fa0 : rfF st a0 fa0) (a1 : Int32) (r : Int32) (st' : CwS) (h : j_MF_isNumber a0 a1 st = some (r, st')) : Met l yX8_isNumber (wv yX8_isNumber cX8_isNumber 2 (some .boolean)) ({ frames := 0, cells := 0, slots := 0, locals := 0 }) (va_Pc [.ref fa0, .int a1] (rfU D A b0 cA st)) (rfQi D A b0 cA r st') (0) (0) A := by
  refine Met.ofW (cc := cX8_isNumber) (maxL := 2) (ret := some .boolean) (by decide) rfl ?_
  intro p e s m args below meth c s₁ B hml hv
  obtain ⟨rfl, hP, hD, hz, hK⟩ := hv
  have hx := B.exec
  have hb := B.bytes
  have hr := B.returns
  have hts := atoms_spec (ws := wv yX8_isNumber cX8_isNumber 2 (some .boolean)) B.pre
  have hown : s.vm.findClass RX8 = some m.cls := findClass_of_methodNamed B.named
  have hlocks := B.notSynchronized
  have hO : rfO D A b0 cA s st s.heap [] := ⟨hP, hD, va_S.rf, hz⟩
  have hl := lv_entry ([.ref fa0, .int a1]) (n := 2) (Nat.le_of_ble_eq_true rfl)
  rw [lg_entry_eq]
  generalize (lg_sl ([.ref fa0, .int a1]) ++ List.replicate (2 - (lg_sl ([.ref fa0, .int a1])).length) Slot.unset).toArray = ls at hl ⊢
  have hl : lv_has ls 2 [(0, .ref fa0), (1, .int a1)] := hl
  have hgw := fun (w : Cond) (h : w ∈ gwW) => hts w (List.mem_cons_of_mem _ h)
  have k18 := hgw _ w_e9c6df78
  unfold j_MF_isNumber at h
  refine lv_aload_n hx hb dX8_isNumber_0 rfl (lv_at hl 0 rfl) ?_
  refine gf_MF_sorts hx hb hgw iwMF hown hK hO hf_fa0 k18 dX8_isNumber_1 ?_
  refine lv_iload_n hx hb dX8_isNumber_4 rfl (lv_at hl 1 rfl) ?_
  obtain ⟨hc1, h⟩ := ck_some h
  refine al_MSorts hx hb hK hO hf_fa0 hc1 dX8_isNumber_5 ?_
  refine lv_if_ne (tgt := 13) hx hb dX8_isNumber_6 (by decide) (fun c2 => ?_) (fun c2 => ?_)
  · have h := ite_f c2 h
    refine lv_iconst (v := 0) hx hb dX8_isNumber_13 (by decide) ?_
    obtain ⟨rfl, rfl⟩ := ret2 h; exact rf_zret hx hb hr hlocks hO rfl dX8_isNumber_14
  · have h := ite_t c2 h
    refine lv_iconst (v := 1) hx hb dX8_isNumber_9 (by decide) ?_
    refine lv_goto (tgt := 14) hx hb dX8_isNumber_10 (by decide) ?_
    obtain ⟨rfl, rfl⟩ := ret2 h; exact rf_zret hx hb hr hlocks hO rfl dX8_isNumber_14
