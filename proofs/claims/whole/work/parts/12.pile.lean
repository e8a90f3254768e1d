-- Pile allows
def j_Pile_allows (a0 : Nat) (a1 : Int32) (a2 : Int32) (st : CwS) : Option (Int32 × CwS) :=
  if (gI st 18 a0 0) < a1 then
    some ((0 : Int32), st)
  else
    if ((12 : Int32)) < (((gI st 18 a0 0) - a1) + a2) then
      some ((0 : Int32), st)
    else
      some ((1 : Int32), st)
set_option maxHeartbeats 4000000 in
set_option maxRecDepth 100000 in
theorem c_Pile_allows (l : Launch) (D : va_G) (A : Nat → Prop) (ad : Nat → Nat) (cA : Nat → ClassId) (tb0 tb1 : Nat) (a0 : Nat) (ha0 : a0 < 10) (a1 : Int32) (a2 : Int32) (st : CwS) (r : Int32) (st' : CwS) (h : j_Pile_allows a0 a1 a2 st = some (r, st')) : Met l yX4_allows (wv yX4_allows cX4_allows 3 (some .boolean)) ({ frames := 0, cells := 0, slots := 0, locals := 0 }) (va_Pc [.ref (ad (182 + 9 * a0)), .int a1, .int a2] (cwU D A ad cA tb0 tb1 st)) (cwQi D A ad cA tb0 tb1 r st') 0 0 A := by
  refine Met.ofW (cc := cX4_allows) (maxL := 3) (ret := some .boolean) (by decide) rfl ?_
  intro p e s m args below meth c s₁ B hml hv
  obtain ⟨rfl, hP, hK⟩ := hv
  have hx := B.exec
  have hb := B.bytes
  have hr := B.returns
  have hts := atoms_spec (ws := wv yX4_allows cX4_allows 3 (some .boolean)) B.pre
  have hown : s.vm.findClass RX4 = some m.cls := findClass_of_methodNamed B.named
  have hlocks := B.notSynchronized
  have hO : cwO D A ad cA s st s.heap [] := ⟨hP, va_S.rf⟩
  have hl := lv_entry ([.ref (ad (182 + 9 * a0)), .int a1, .int a2]) (n := 3) (Nat.le_of_ble_eq_true rfl)
  rw [lg_entry_eq]
  generalize (lg_sl ([.ref (ad (182 + 9 * a0)), .int a1, .int a2]) ++ List.replicate (3 - (lg_sl ([.ref (ad (182 + 9 * a0)), .int a1, .int a2])).length) Slot.unset).toArray = ls at hl ⊢
  have hl : lv_has ls 3 [(0, .ref (ad (182 + 9 * a0))), (1, .int a1), (2, .int a2)] := hl
  have _h0 := hO
  have hgw := fun (w : Cond) (h : w ∈ gwW) => hts w (List.mem_cons_of_mem _ h)
  have k19 := hgw _ w_311ac5d4
  unfold j_Pile_allows at h
  refine lv_aload_n hx hb dX4_allows_0 rfl (lv_at hl 0 rfl) ?_
  refine gf_Pile_height hx hb hgw iwPile hown hK hO ha0 k19 dX4_allows_1 ?_
  refine lv_iload_n hx hb dX4_allows_4 rfl (lv_at hl 1 rfl) ?_
  refine lv_icmp_lt (tgt := 25) hx hb dX4_allows_5 (by decide) (fun c1 => ?_) (fun c1 => ?_)
  · have h := ite_t c1 h
    refine lv_iconst (v := 0) hx hb dX4_allows_25 (by decide) ?_
    obtain ⟨rfl, rfl⟩ := ret2 h; exact cw_zret hx hb hr hlocks hO rfl dX4_allows_26
  · have h := ite_f c1 h
    refine lv_aload_n hx hb dX4_allows_8 rfl (lv_at hl 0 rfl) ?_
    refine gf_Pile_height hx hb hgw iwPile hown hK hO ha0 k19 dX4_allows_9 ?_
    refine lv_iload_n hx hb dX4_allows_12 rfl (lv_at hl 1 rfl) ?_
    refine lv_isub hx hb dX4_allows_13 ?_
    refine lv_iload_n hx hb dX4_allows_14 rfl (lv_at hl 2 rfl) ?_
    refine lv_iadd hx hb dX4_allows_15 ?_
    refine lv_bipush (v := 12) hx hb dX4_allows_16 (by decide) ?_
    refine lv_icmp_gt (tgt := 25) hx hb dX4_allows_18 (by decide) (fun c2 => ?_) (fun c2 => ?_)
    · have h := ite_t c2 h
      refine lv_iconst (v := 0) hx hb dX4_allows_25 (by decide) ?_
      obtain ⟨rfl, rfl⟩ := ret2 h; exact cw_zret hx hb hr hlocks hO rfl dX4_allows_26
    · have h := ite_f c2 h
      refine lv_iconst (v := 1) hx hb dX4_allows_21 (by decide) ?_
      refine lv_goto (tgt := 26) hx hb dX4_allows_22 (by decide) ?_
      obtain ⟨rfl, rfl⟩ := ret2 h; exact cw_zret hx hb hr hlocks hO rfl dX4_allows_26
-- Pile take
def j_Pile_take (a0 : Nat) (a1 : Int32) (st : CwS) : Option CwS :=
  some (sI (sI st 19 a0 0 (gI st 18 a0 0)) 18 a0 0 (if ((0 : Int32)) < ((gI (sI st 19 a0 0 (gI st 18 a0 0)) 18 a0 0) - a1) then ((gI (sI st 19 a0 0 (gI st 18 a0 0)) 18 a0 0) - a1) else ((0 : Int32))))
set_option maxHeartbeats 4000000 in
set_option maxRecDepth 100000 in
theorem c_Pile_take (l : Launch) (D : va_G) (A : Nat → Prop) (ad : Nat → Nat) (cA : Nat → ClassId) (tb0 tb1 : Nat) (a0 : Nat) (ha0 : a0 < 10) (a1 : Int32) (st : CwS) (st' : CwS) (h : j_Pile_take a0 a1 st = some st') : Met l yX4_take (wv yX4_take cX4_take 2 (none)) ({ frames := 1, cells := 0, slots := 0, locals := 40 }) (va_Pc [.ref (ad (182 + 9 * a0)), .int a1] (cwU D A ad cA tb0 tb1 st)) (cwQv D A ad cA tb0 tb1 st') 0 0 A := by
  refine Met.ofW (cc := cX4_take) (maxL := 2) (ret := none) (by decide) rfl ?_
  intro p e s m args below meth c s₁ B hml hv
  obtain ⟨rfl, hP, hK⟩ := hv
  have hx := B.exec
  have hb := B.bytes
  have hr := B.returns
  have hts := atoms_spec (ws := wv yX4_take cX4_take 2 (none)) B.pre
  have hown : s.vm.findClass RX4 = some m.cls := findClass_of_methodNamed B.named
  have hlocks := B.notSynchronized
  have hO : cwO D A ad cA s st s.heap [] := ⟨hP, va_S.rf⟩
  have hl := lv_entry ([.ref (ad (182 + 9 * a0)), .int a1]) (n := 2) (Nat.le_of_ble_eq_true rfl)
  rw [lg_entry_eq]
  generalize (lg_sl ([.ref (ad (182 + 9 * a0)), .int a1]) ++ List.replicate (2 - (lg_sl ([.ref (ad (182 + 9 * a0)), .int a1])).length) Slot.unset).toArray = ls at hl ⊢
  have hl : lv_has ls 2 [(0, .ref (ad (182 + 9 * a0))), (1, .int a1)] := hl
  have _h0 := hO
  have hgw := fun (w : Cond) (h : w ∈ gwW) => hts w (List.mem_cons_of_mem _ h)
  have k19 := hgw _ w_311ac5d4
  have k23 := hgw _ w_c51cb73e
  have k26 := hgw _ w_f225a1c0
  unfold j_Pile_take at h
  refine lv_aload_n hx hb dX4_take_0 rfl (lv_at hl 0 rfl) ?_
  refine lv_aload_n hx hb dX4_take_1 rfl (lv_at hl 0 rfl) ?_
  refine gf_Pile_height hx hb hgw iwPile hown hK hO ha0 k19 dX4_take_2 ?_
  refine pf_Pile_heightBefore hx hb hgw iwPile hown hK hO ha0 k23 dX4_take_5 (fun H locs hO => ?_)
  refine lv_aload_n hx hb dX4_take_8 rfl (lv_at hl 0 rfl) ?_
  refine lv_iconst (v := 0) hx hb dX4_take_9 (by decide) ?_
  refine lv_aload_n hx hb dX4_take_10 rfl (lv_at hl 0 rfl) ?_
  refine gf_Pile_height hx hb hgw iwPile hown hK hO ha0 k19 dX4_take_11 ?_
  refine lv_iload_n hx hb dX4_take_14 rfl (lv_at hl 1 rfl) ?_
  refine lv_isub hx hb dX4_take_15 ?_
  refine va_mmax hx hb (by rw [hml]; exact hl.1.symm) hown k26 (hgw _ w_80a2ec50) (hgw _ w_868a9286) (hgw _ w_b6349a14) (Nat.le_of_ble_eq_true rfl) (Nat.le_of_ble_eq_true rfl) (Nat.zero_le _) (Nat.zero_le _) dX4_take_16 ?_
  refine pf_Pile_height hx hb hgw iwPile hown hK hO ha0 k19 dX4_take_19 (fun H locs hO => ?_)
  cases h; exact cw_vret hx hb hr hlocks hO dX4_take_22
-- Pile tookKind
def j_Pile_tookKind (a0 : Nat) (a1 : Int32) (st : CwS) : Option (Int32 × CwS) :=
  if (((gI st 19 a0 0) - ((1 : Int32))) - a1) < ((0 : Int32)) then
    some ((3 : Int32), st)
  else
    if ((12 : Int32)) ≤ (((gI st 19 a0 0) - ((1 : Int32))) - a1) then
      some ((3 : Int32), st)
    else
      ck (ix (((gI st 19 a0 0) - ((1 : Int32))) - a1) 12) <|
      some (gI st 17 a0 ((((gI st 19 a0 0) - ((1 : Int32))) - a1).toNatClampNeg), st)
set_option maxHeartbeats 4000000 in
set_option maxRecDepth 100000 in
theorem c_Pile_tookKind (l : Launch) (D : va_G) (A : Nat → Prop) (ad : Nat → Nat) (cA : Nat → ClassId) (tb0 tb1 : Nat) (a0 : Nat) (ha0 : a0 < 10) (a1 : Int32) (st : CwS) (r : Int32) (st' : CwS) (h : j_Pile_tookKind a0 a1 st = some (r, st')) : Met l yX4_tookKind (wv yX4_tookKind cX4_tookKind 3 (some .int)) ({ frames := 0, cells := 0, slots := 0, locals := 0 }) (va_Pc [.ref (ad (182 + 9 * a0)), .int a1] (cwU D A ad cA tb0 tb1 st)) (cwQi D A ad cA tb0 tb1 r st') 0 0 A := by
  refine Met.ofW (cc := cX4_tookKind) (maxL := 3) (ret := some .int) (by decide) rfl ?_
  intro p e s m args below meth c s₁ B hml hv
  obtain ⟨rfl, hP, hK⟩ := hv
  have hx := B.exec
  have hb := B.bytes
  have hr := B.returns
  have hts := atoms_spec (ws := wv yX4_tookKind cX4_tookKind 3 (some .int)) B.pre
  have hown : s.vm.findClass RX4 = some m.cls := findClass_of_methodNamed B.named
  have hlocks := B.notSynchronized
  have hO : cwO D A ad cA s st s.heap [] := ⟨hP, va_S.rf⟩
  have hl := lv_entry ([.ref (ad (182 + 9 * a0)), .int a1]) (n := 3) (Nat.le_of_ble_eq_true rfl)
  rw [lg_entry_eq]
  generalize (lg_sl ([.ref (ad (182 + 9 * a0)), .int a1]) ++ List.replicate (3 - (lg_sl ([.ref (ad (182 + 9 * a0)), .int a1])).length) Slot.unset).toArray = ls at hl ⊢
  have hl : lv_has ls 3 [(0, .ref (ad (182 + 9 * a0))), (1, .int a1)] := hl
  have _h0 := hO
  have hgw := fun (w : Cond) (h : w ∈ gwW) => hts w (List.mem_cons_of_mem _ h)
  have k9 := hgw _ w_89a9db98
  have k23 := hgw _ w_c51cb73e
  unfold j_Pile_tookKind at h
  refine lv_aload_n hx hb dX4_tookKind_0 rfl (lv_at hl 0 rfl) ?_
  refine gf_Pile_heightBefore hx hb hgw iwPile hown hK hO ha0 k23 dX4_tookKind_1 ?_
  refine lv_iconst (v := 1) hx hb dX4_tookKind_4 (by decide) ?_
  refine lv_isub hx hb dX4_tookKind_5 ?_
  refine lv_iload_n hx hb dX4_tookKind_6 rfl (lv_at hl 1 rfl) ?_
  refine lv_isub hx hb dX4_tookKind_7 ?_
  refine lv_istore_n (lv' := [(2, .int (((gI st 19 a0 0) - ((1 : Int32))) - a1)), (0, .ref (ad (182 + 9 * a0))), (1, .int a1)]) hx hb dX4_tookKind_8 rfl hl (by decide) rfl (fun ls hl => ?_)
  refine lv_iload_n hx hb dX4_tookKind_9 rfl (lv_at hl 0 rfl) ?_
  refine lv_if_lt (tgt := 28) hx hb dX4_tookKind_10 (by decide) (fun c1 => ?_) (fun c1 => ?_)
  · have h := ite_t c1 h
    refine lv_iconst (v := 3) hx hb dX4_tookKind_28 (by decide) ?_
    obtain ⟨rfl, rfl⟩ := ret2 h; exact cw_iret hx hb hr hlocks hO dX4_tookKind_29
  · have h := ite_f c1 h
    refine lv_iload_n hx hb dX4_tookKind_13 rfl (lv_at hl 0 rfl) ?_
    refine lv_bipush (v := 12) hx hb dX4_tookKind_14 (by decide) ?_
    refine lv_icmp_ge (tgt := 28) hx hb dX4_tookKind_16 (by decide) (fun c2 => ?_) (fun c2 => ?_)
    · have h := ite_t c2 h
      refine lv_iconst (v := 3) hx hb dX4_tookKind_28 (by decide) ?_
      obtain ⟨rfl, rfl⟩ := ret2 h; exact cw_iret hx hb hr hlocks hO dX4_tookKind_29
    · have h := ite_f c2 h
      refine lv_aload_n hx hb dX4_tookKind_19 rfl (lv_at hl 1 rfl) ?_
      refine gf_Pile_kinds hx hb hgw iwPile hown hK hO ha0 k9 dX4_tookKind_20 ?_
      refine lv_iload_n hx hb dX4_tookKind_23 rfl (lv_at hl 0 rfl) ?_
      obtain ⟨hc3, h⟩ := ck_some h
      refine al_PKinds hx hb hK hO ha0 hc3 dX4_tookKind_24 ?_
      refine lv_goto (tgt := 29) hx hb dX4_tookKind_25 (by decide) ?_
      obtain ⟨rfl, rfl⟩ := ret2 h; exact cw_iret hx hb hr hlocks hO dX4_tookKind_29
-- Pile took
def j_Pile_took (a0 : Nat) (a1 : Int32) (st : CwS) : Option (Int64 × CwS) :=
  if (((gI st 19 a0 0) - ((1 : Int32))) - a1) < ((0 : Int32)) then
    some ((0 : Int64), st)
  else
    if ((12 : Int32)) ≤ (((gI st 19 a0 0) - ((1 : Int32))) - a1) then
      some ((0 : Int64), st)
    else
      ck (ix (((gI st 19 a0 0) - ((1 : Int32))) - a1) 12) <|
      some (gL st 6 a0 ((((gI st 19 a0 0) - ((1 : Int32))) - a1).toNatClampNeg), st)
set_option maxHeartbeats 4000000 in
set_option maxRecDepth 100000 in
theorem c_Pile_took (l : Launch) (D : va_G) (A : Nat → Prop) (ad : Nat → Nat) (cA : Nat → ClassId) (tb0 tb1 : Nat) (a0 : Nat) (ha0 : a0 < 10) (a1 : Int32) (st : CwS) (r : Int64) (st' : CwS) (h : j_Pile_took a0 a1 st = some (r, st')) : Met l yX4_took (wv yX4_took cX4_took 3 (some .long)) ({ frames := 0, cells := 0, slots := 0, locals := 0 }) (va_Pc [.ref (ad (182 + 9 * a0)), .int a1] (cwU D A ad cA tb0 tb1 st)) (cwQl D A ad cA tb0 tb1 r st') 0 0 A := by
  refine Met.ofW (cc := cX4_took) (maxL := 3) (ret := some .long) (by decide) rfl ?_
  intro p e s m args below meth c s₁ B hml hv
  obtain ⟨rfl, hP, hK⟩ := hv
  have hx := B.exec
  have hb := B.bytes
  have hr := B.returns
  have hts := atoms_spec (ws := wv yX4_took cX4_took 3 (some .long)) B.pre
  have hown : s.vm.findClass RX4 = some m.cls := findClass_of_methodNamed B.named
  have hlocks := B.notSynchronized
  have hO : cwO D A ad cA s st s.heap [] := ⟨hP, va_S.rf⟩
  have hl := lv_entry ([.ref (ad (182 + 9 * a0)), .int a1]) (n := 3) (Nat.le_of_ble_eq_true rfl)
  rw [lg_entry_eq]
  generalize (lg_sl ([.ref (ad (182 + 9 * a0)), .int a1]) ++ List.replicate (3 - (lg_sl ([.ref (ad (182 + 9 * a0)), .int a1])).length) Slot.unset).toArray = ls at hl ⊢
  have hl : lv_has ls 3 [(0, .ref (ad (182 + 9 * a0))), (1, .int a1)] := hl
  have _h0 := hO
  have hgw := fun (w : Cond) (h : w ∈ gwW) => hts w (List.mem_cons_of_mem _ h)
  have k15 := hgw _ w_c5b43c70
  have k23 := hgw _ w_c51cb73e
  unfold j_Pile_took at h
  refine lv_aload_n hx hb dX4_took_0 rfl (lv_at hl 0 rfl) ?_
  refine gf_Pile_heightBefore hx hb hgw iwPile hown hK hO ha0 k23 dX4_took_1 ?_
  refine lv_iconst (v := 1) hx hb dX4_took_4 (by decide) ?_
  refine lv_isub hx hb dX4_took_5 ?_
  refine lv_iload_n hx hb dX4_took_6 rfl (lv_at hl 1 rfl) ?_
  refine lv_isub hx hb dX4_took_7 ?_
  refine lv_istore_n (lv' := [(2, .int (((gI st 19 a0 0) - ((1 : Int32))) - a1)), (0, .ref (ad (182 + 9 * a0))), (1, .int a1)]) hx hb dX4_took_8 rfl hl (by decide) rfl (fun ls hl => ?_)
  refine lv_iload_n hx hb dX4_took_9 rfl (lv_at hl 0 rfl) ?_
  refine lv_if_lt (tgt := 28) hx hb dX4_took_10 (by decide) (fun c1 => ?_) (fun c1 => ?_)
  · have h := ite_t c1 h
    refine lv_lconst (v := 0) hx hb dX4_took_28 (by decide) ?_
    obtain ⟨rfl, rfl⟩ := ret2 h; exact cw_lret hx hb hr hlocks hO dX4_took_29
  · have h := ite_f c1 h
    refine lv_iload_n hx hb dX4_took_13 rfl (lv_at hl 0 rfl) ?_
    refine lv_bipush (v := 12) hx hb dX4_took_14 (by decide) ?_
    refine lv_icmp_ge (tgt := 28) hx hb dX4_took_16 (by decide) (fun c2 => ?_) (fun c2 => ?_)
    · have h := ite_t c2 h
      refine lv_lconst (v := 0) hx hb dX4_took_28 (by decide) ?_
      obtain ⟨rfl, rfl⟩ := ret2 h; exact cw_lret hx hb hr hlocks hO dX4_took_29
    · have h := ite_f c2 h
      refine lv_aload_n hx hb dX4_took_19 rfl (lv_at hl 1 rfl) ?_
      refine gf_Pile_numbers hx hb hgw iwPile hown hK hO ha0 k15 dX4_took_20 ?_
      refine lv_iload_n hx hb dX4_took_23 rfl (lv_at hl 0 rfl) ?_
      obtain ⟨hc3, h⟩ := ck_some h
      refine al_PNums hx hb hK hO ha0 hc3 dX4_took_24 ?_
      refine lv_goto (tgt := 29) hx hb dX4_took_25 (by decide) ?_
      obtain ⟨rfl, rfl⟩ := ret2 h; exact cw_lret hx hb hr hlocks hO dX4_took_29
-- Pile tookNumber
def j_Pile_tookNumber (a0 : Nat) (a1 : Int32) (st : CwS) : Option (Int32 × CwS) :=
  bR (j_Pile_tookKind a0 a1 st) fun r1 st2 =>
  if r1 = ((0 : Int32)) then
    some ((1 : Int32), st2)
  else
    some ((0 : Int32), st2)
set_option maxHeartbeats 4000000 in
set_option maxRecDepth 100000 in
theorem c_Pile_tookNumber (l : Launch) (D : va_G) (A : Nat → Prop) (ad : Nat → Nat) (cA : Nat → ClassId) (tb0 tb1 : Nat) (a0 : Nat) (ha0 : a0 < 10) (a1 : Int32) (st : CwS) (r : Int32) (st' : CwS) (h : j_Pile_tookNumber a0 a1 st = some (r, st')) : Met l yX4_tookNumber (wv yX4_tookNumber cX4_tookNumber 2 (some .boolean)) ({ frames := 1, cells := 0, slots := 0, locals := 22 }) (va_Pc [.ref (ad (182 + 9 * a0)), .int a1] (cwU D A ad cA tb0 tb1 st)) (cwQi D A ad cA tb0 tb1 r st') 0 0 A := by
  refine Met.ofW (cc := cX4_tookNumber) (maxL := 2) (ret := some .boolean) (by decide) rfl ?_
  intro p e s m args below meth c s₁ B hml hv
  obtain ⟨rfl, hP, hK⟩ := hv
  have hx := B.exec
  have hb := B.bytes
  have hr := B.returns
  have hts := atoms_spec (ws := wv yX4_tookNumber cX4_tookNumber 2 (some .boolean)) B.pre
  have hown : s.vm.findClass RX4 = some m.cls := findClass_of_methodNamed B.named
  have hlocks := B.notSynchronized
  have hO : cwO D A ad cA s st s.heap [] := ⟨hP, va_S.rf⟩
  have hl := lv_entry ([.ref (ad (182 + 9 * a0)), .int a1]) (n := 2) (Nat.le_of_ble_eq_true rfl)
  rw [lg_entry_eq]
  generalize (lg_sl ([.ref (ad (182 + 9 * a0)), .int a1]) ++ List.replicate (2 - (lg_sl ([.ref (ad (182 + 9 * a0)), .int a1])).length) Slot.unset).toArray = ls at hl ⊢
  have hl : lv_has ls 2 [(0, .ref (ad (182 + 9 * a0))), (1, .int a1)] := hl
  have _h0 := hO
  have hgw := fun (w : Cond) (h : w ∈ gwW) => hts w (List.mem_cons_of_mem _ h)
  unfold j_Pile_tookNumber at h
  refine lv_aload_n hx hb dX4_tookNumber_0 rfl (lv_at hl 0 rfl) ?_
  refine lv_iload_n hx hb dX4_tookNumber_1 rfl (lv_at hl 1 rfl) ?_
  obtain ⟨r1, st2, h3, h⟩ := bR_some h
  refine cw_calli (va_runV (As := [.int a1]) (rest := []) ⟨hx, hb, hml, hown, hts⟩ (c_Pile_tookKind l D A ad cA tb0 tb1 a0 ha0 a1 st r1 st2 h3) (cwV 1 hts (gw_V w_548e850c w_5c9fe01c w_ceab1f00 w_76c797a4 w_72af167e) rfl rfl rfl (by decide +kernel) ⟨Nat.le_of_ble_eq_true rfl, Nat.le_of_ble_eq_true rfl⟩) (cw_preV (k := 182 + 9 * a0) (ci := 4) hK hO rfl (by have := ha0; omega) (cc_Pile ha0)) rfl rfl hl.1 rfl (lv_room (Nat.le_of_ble_eq_true rfl)) dX4_tookNumber_2 ⟨Nat.zero_le _, Nat.zero_le _⟩) hO (fun H locs hO => ?_)
  refine lv_if_ne (tgt := 12) hx hb dX4_tookNumber_5 (by decide) (fun c4 => ?_) (fun c4 => ?_)
  · have h := ite_f c4 h
    refine lv_iconst (v := 0) hx hb dX4_tookNumber_12 (by decide) ?_
    obtain ⟨rfl, rfl⟩ := ret2 h; exact cw_zret hx hb hr hlocks hO rfl dX4_tookNumber_13
  · have h := ite_t c4 h
    refine lv_iconst (v := 1) hx hb dX4_tookNumber_8 (by decide) ?_
    refine lv_goto (tgt := 13) hx hb dX4_tookNumber_9 (by decide) ?_
    obtain ⟨rfl, rfl⟩ := ret2 h; exact cw_zret hx hb hr hlocks hO rfl dX4_tookNumber_13
-- Pile put
def j_Pile_put (a0 : Nat) (a1 : Int32) (a2 : Int64) (st : CwS) : Option (Int32 × CwS) :=
  if (gI st 18 a0 0) < ((0 : Int32)) then
    some ((11 : Int32), st)
  else
    if (gI st 18 a0 0) < ((12 : Int32)) then
      ck (ix (gI st 18 a0 0) 12) <|
      ck (ix (gI (sI st 17 a0 ((gI st 18 a0 0).toNatClampNeg) a1) 18 a0 0) 12) <|
      some ((0 : Int32), sI (sL (sI st 17 a0 ((gI st 18 a0 0).toNatClampNeg) a1) 6 a0 ((gI (sI st 17 a0 ((gI st 18 a0 0).toNatClampNeg) a1) 18 a0 0).toNatClampNeg) a2) 18 a0 0 ((gI (sL (sI st 17 a0 ((gI st 18 a0 0).toNatClampNeg) a1) 6 a0 ((gI (sI st 17 a0 ((gI st 18 a0 0).toNatClampNeg) a1) 18 a0 0).toNatClampNeg) a2) 18 a0 0) + ((1 : Int32))))
    else
      some ((11 : Int32), st)
set_option maxHeartbeats 4000000 in
set_option maxRecDepth 100000 in
theorem c_Pile_put (l : Launch) (D : va_G) (A : Nat → Prop) (ad : Nat → Nat) (cA : Nat → ClassId) (tb0 tb1 : Nat) (a0 : Nat) (ha0 : a0 < 10) (a1 : Int32) (a2 : Int64) (st : CwS) (r : Int32) (st' : CwS) (h : j_Pile_put a0 a1 a2 st = some (r, st')) : Met l yX4_put (wv yX4_put cX4_put 4 (some .int)) ({ frames := 0, cells := 0, slots := 0, locals := 0 }) (va_Pc [.ref (ad (182 + 9 * a0)), .int a1, .long a2] (cwU D A ad cA tb0 tb1 st)) (cwQi D A ad cA tb0 tb1 r st') 0 0 A := by
  refine Met.ofW (cc := cX4_put) (maxL := 4) (ret := some .int) (by decide) rfl ?_
  intro p e s m args below meth c s₁ B hml hv
  obtain ⟨rfl, hP, hK⟩ := hv
  have hx := B.exec
  have hb := B.bytes
  have hr := B.returns
  have hts := atoms_spec (ws := wv yX4_put cX4_put 4 (some .int)) B.pre
  have hown : s.vm.findClass RX4 = some m.cls := findClass_of_methodNamed B.named
  have hlocks := B.notSynchronized
  have hO : cwO D A ad cA s st s.heap [] := ⟨hP, va_S.rf⟩
  have hl := lv_entry ([.ref (ad (182 + 9 * a0)), .int a1, .long a2]) (n := 4) (Nat.le_of_ble_eq_true rfl)
  rw [lg_entry_eq]
  generalize (lg_sl ([.ref (ad (182 + 9 * a0)), .int a1, .long a2]) ++ List.replicate (4 - (lg_sl ([.ref (ad (182 + 9 * a0)), .int a1, .long a2])).length) Slot.unset).toArray = ls at hl ⊢
  have hl : lv_has ls 4 [(0, .ref (ad (182 + 9 * a0))), (1, .int a1), (2, .long a2)] := hl
  have _h0 := hO
  have hgw := fun (w : Cond) (h : w ∈ gwW) => hts w (List.mem_cons_of_mem _ h)
  have k9 := hgw _ w_89a9db98
  have k15 := hgw _ w_c5b43c70
  have k19 := hgw _ w_311ac5d4
  unfold j_Pile_put at h
  refine lv_aload_n hx hb dX4_put_0 rfl (lv_at hl 0 rfl) ?_
  refine gf_Pile_height hx hb hgw iwPile hown hK hO ha0 k19 dX4_put_1 ?_
  refine lv_if_lt (tgt := 16) hx hb dX4_put_4 (by decide) (fun c1 => ?_) (fun c1 => ?_)
  · have h := ite_t c1 h
    refine lv_bipush (v := 11) hx hb dX4_put_16 (by decide) ?_
    obtain ⟨rfl, rfl⟩ := ret2 h; exact cw_iret hx hb hr hlocks hO dX4_put_18
  · have h := ite_f c1 h
    refine lv_aload_n hx hb dX4_put_7 rfl (lv_at hl 0 rfl) ?_
    refine gf_Pile_height hx hb hgw iwPile hown hK hO ha0 k19 dX4_put_8 ?_
    refine lv_bipush (v := 12) hx hb dX4_put_11 (by decide) ?_
    refine lv_icmp_lt (tgt := 19) hx hb dX4_put_13 (by decide) (fun c2 => ?_) (fun c2 => ?_)
    · have h := ite_t c2 h
      refine lv_aload_n hx hb dX4_put_19 rfl (lv_at hl 0 rfl) ?_
      refine gf_Pile_kinds hx hb hgw iwPile hown hK hO ha0 k9 dX4_put_20 ?_
      refine lv_aload_n hx hb dX4_put_23 rfl (lv_at hl 0 rfl) ?_
      refine gf_Pile_height hx hb hgw iwPile hown hK hO ha0 k19 dX4_put_24 ?_
      refine lv_iload_n hx hb dX4_put_27 rfl (lv_at hl 1 rfl) ?_
      obtain ⟨hc3, h⟩ := ck_some h
      refine as_PKinds hx hb hK hO ha0 hc3 dX4_put_28 (fun H locs hO => ?_)
      refine lv_aload_n hx hb dX4_put_29 rfl (lv_at hl 0 rfl) ?_
      refine gf_Pile_numbers hx hb hgw iwPile hown hK hO ha0 k15 dX4_put_30 ?_
      refine lv_aload_n hx hb dX4_put_33 rfl (lv_at hl 0 rfl) ?_
      refine gf_Pile_height hx hb hgw iwPile hown hK hO ha0 k19 dX4_put_34 ?_
      refine lv_lload_n hx hb dX4_put_37 rfl (lv_at hl 2 rfl) ?_
      obtain ⟨hc4, h⟩ := ck_some h
      refine as_PNums hx hb hK hO ha0 hc4 dX4_put_38 (fun H locs hO => ?_)
      refine lv_aload_n hx hb dX4_put_39 rfl (lv_at hl 0 rfl) ?_
      refine lv_dup hx hb dX4_put_40 rfl ?_
      refine gf_Pile_height hx hb hgw iwPile hown hK hO ha0 k19 dX4_put_41 ?_
      refine lv_iconst (v := 1) hx hb dX4_put_44 (by decide) ?_
      refine lv_iadd hx hb dX4_put_45 ?_
      refine pf_Pile_height hx hb hgw iwPile hown hK hO ha0 k19 dX4_put_46 (fun H locs hO => ?_)
      refine lv_iconst (v := 0) hx hb dX4_put_49 (by decide) ?_
      obtain ⟨rfl, rfl⟩ := ret2 h; exact cw_iret hx hb hr hlocks hO dX4_put_50
    · have h := ite_f c2 h
      refine lv_bipush (v := 11) hx hb dX4_put_16 (by decide) ?_
      obtain ⟨rfl, rfl⟩ := ret2 h; exact cw_iret hx hb hr hlocks hO dX4_put_18
-- Pile putNumber
def j_Pile_putNumber (a0 : Nat) (a1 : Int64) (st : CwS) : Option (Int32 × CwS) :=
  bR (j_Pile_put a0 ((0 : Int32)) a1 st) fun r1 st2 =>
  some (r1, st2)
set_option maxHeartbeats 4000000 in
set_option maxRecDepth 100000 in
theorem c_Pile_putNumber (l : Launch) (D : va_G) (A : Nat → Prop) (ad : Nat → Nat) (cA : Nat → ClassId) (tb0 tb1 : Nat) (a0 : Nat) (ha0 : a0 < 10) (a1 : Int64) (st : CwS) (r : Int32) (st' : CwS) (h : j_Pile_putNumber a0 a1 st = some (r, st')) : Met l yX4_putNumber (wv yX4_putNumber cX4_putNumber 3 (some .int)) ({ frames := 1, cells := 0, slots := 0, locals := 23 }) (va_Pc [.ref (ad (182 + 9 * a0)), .long a1] (cwU D A ad cA tb0 tb1 st)) (cwQi D A ad cA tb0 tb1 r st') 0 0 A := by
  refine Met.ofW (cc := cX4_putNumber) (maxL := 3) (ret := some .int) (by decide) rfl ?_
  intro p e s m args below meth c s₁ B hml hv
  obtain ⟨rfl, hP, hK⟩ := hv
  have hx := B.exec
  have hb := B.bytes
  have hr := B.returns
  have hts := atoms_spec (ws := wv yX4_putNumber cX4_putNumber 3 (some .int)) B.pre
  have hown : s.vm.findClass RX4 = some m.cls := findClass_of_methodNamed B.named
  have hlocks := B.notSynchronized
  have hO : cwO D A ad cA s st s.heap [] := ⟨hP, va_S.rf⟩
  have hl := lv_entry ([.ref (ad (182 + 9 * a0)), .long a1]) (n := 3) (Nat.le_of_ble_eq_true rfl)
  rw [lg_entry_eq]
  generalize (lg_sl ([.ref (ad (182 + 9 * a0)), .long a1]) ++ List.replicate (3 - (lg_sl ([.ref (ad (182 + 9 * a0)), .long a1])).length) Slot.unset).toArray = ls at hl ⊢
  have hl : lv_has ls 3 [(0, .ref (ad (182 + 9 * a0))), (1, .long a1)] := hl
  have _h0 := hO
  have hgw := fun (w : Cond) (h : w ∈ gwW) => hts w (List.mem_cons_of_mem _ h)
  unfold j_Pile_putNumber at h
  refine lv_aload_n hx hb dX4_putNumber_0 rfl (lv_at hl 0 rfl) ?_
  refine lv_iconst (v := 0) hx hb dX4_putNumber_1 (by decide) ?_
  refine lv_lload_n hx hb dX4_putNumber_2 rfl (lv_at hl 1 rfl) ?_
  obtain ⟨r1, st2, h3, h⟩ := bR_some h
  refine cw_calli (va_runV (As := [.int ((0 : Int32)), .long a1]) (rest := []) ⟨hx, hb, hml, hown, hts⟩ (c_Pile_put l D A ad cA tb0 tb1 a0 ha0 ((0 : Int32)) a1 st r1 st2 h3) (cwV 2 hts (gw_V w_5c3461e8 w_d8d501aa w_46b57ea6 w_76c797a4 w_54242bcb) rfl rfl rfl (by decide +kernel) ⟨Nat.le_of_ble_eq_true rfl, Nat.le_of_ble_eq_true rfl⟩) (cw_preV (k := 182 + 9 * a0) (ci := 4) hK hO rfl (by have := ha0; omega) (cc_Pile ha0)) rfl rfl hl.1 rfl (lv_room (Nat.le_of_ble_eq_true rfl)) dX4_putNumber_3 ⟨Nat.zero_le _, Nat.zero_le _⟩) hO (fun H locs hO => ?_)
  obtain ⟨rfl, rfl⟩ := ret2 h; exact cw_iret hx hb hr hlocks hO dX4_putNumber_6
-- Pile freeRow
def j_Pile_freeRow_L58 : Nat → Nat → Int32 → Int32 → CwS → Option (Int32 × CwS)
  | 0, _, _, _, _ => none
  | n + 1, x0, x1, x2, st =>
    if ((12 : Int32)) ≤ x2 then
      some ((-1 : Int32), st)
    else
      if ((x1 >>> (x2 &&& 31)) &&& ((1 : Int32))) = ((0 : Int32)) then
        some (x2, st)
      else
        j_Pile_freeRow_L58 n x0 x1 (x2 + (1 : Int32)) st
def j_Pile_freeRow_L4 : Nat → Nat → Int32 → Int32 → CwS → Option (Int32 × CwS)
  | 0, _, _, _, _ => none
  | n + 1, x0, x1, x2, st =>
    if (gI st 18 x0 0) ≤ x2 then
      j_Pile_freeRow_L58 13 x0 x1 ((0 : Int32)) st
    else
      if ((12 : Int32)) ≤ x2 then
        j_Pile_freeRow_L58 13 x0 x1 ((0 : Int32)) st
      else
        ck (ix x2 12) <|
        if (gI st 17 x0 x2.toNatClampNeg) = ((1 : Int32)) then
          ck (ix x2 12) <|
          j_Pile_freeRow_L4 n x0 (x1 ||| (((1 : Int32)) <<< (((gL st 6 x0 x2.toNatClampNeg).toInt32) &&& 31))) (x2 + (1 : Int32)) st
        else
          ck (ix x2 12) <|
          if (gI st 17 x0 x2.toNatClampNeg) = ((2 : Int32)) then
            ck (ix x2 12) <|
            j_Pile_freeRow_L4 n x0 (x1 ||| (((1 : Int32)) <<< (((gL st 6 x0 x2.toNatClampNeg).toInt32) &&& 31))) (x2 + (1 : Int32)) st
          else
            j_Pile_freeRow_L4 n x0 x1 (x2 + (1 : Int32)) st
def j_Pile_freeRow (a0 : Nat) (st : CwS) : Option (Int32 × CwS) :=
  j_Pile_freeRow_L4 13 a0 ((0 : Int32)) ((0 : Int32)) st
set_option maxHeartbeats 4000000 in
set_option maxRecDepth 100000 in
theorem c_Pile_freeRow_L58 {l : Launch} {D : va_G} {A : Nat → Prop} {ad : Nat → Nat} {cA : Nat → ClassId} {tb0 tb1 : Nat} {p : Program} {e : Env} {s : State} {m : MethodId} {args : Array Value} {below : List Frame} {meth : Method} {c : Code} (S : CallFix p m c cX4_freeRow 3 s args (wv yX4_freeRow cX4_freeRow 3 (some .int)) RX4) (hr : meth.sig.returnType = some .int) (hlocks : meth.locks = false) (hK : cwK D A ad cA tb0 tb1 s) (r : Int32) (st' : CwS) : ∀ (n : Nat) (x0 : Nat) (hx0 : x0 < 10) (x1 : Int32) (x2 : Int32) (st : CwS) (H : Heap) (locs : List Loc) (ls : Array Slot), j_Pile_freeRow_L58 n x0 x1 x2 st = some (r, st') → cwO D A ad cA s st H locs → lv_has ls 3 [(0, .ref (ad (182 + 9 * x0))), (1, .int x1), (2, .int x2)] → W p l e ({ frames := 0, cells := 0, slots := 0, locals := 0 }) s m args below meth c H locs 0 0 (MQ below (cwQi D A ad cA tb0 tb1 r st') args s 0 0 A) (F0 m 58 ls []) := by
  obtain ⟨hx, hb, hml, hown, hts⟩ := S
  have hgw := fun (w : Cond) (h : w ∈ gwW) => hts w (List.mem_cons_of_mem _ h)
  have k9 := hgw _ w_89a9db98
  have k15 := hgw _ w_c5b43c70
  have k19 := hgw _ w_311ac5d4
  intro n
  induction n with
  | zero =>
    intro x0 hx0 x1 x2 st H locs ls h hO hl
    cases h
  | succ n ih =>
    intro x0 hx0 x1 x2 st H locs ls h hO hl
    unfold j_Pile_freeRow_L58 at h
    refine lv_iload_n hx hb dX4_freeRow_58 rfl (lv_at hl 2 rfl) ?_
    refine lv_bipush (v := 12) hx hb dX4_freeRow_59 (by decide) ?_
    refine lv_icmp_ge (tgt := 80) hx hb dX4_freeRow_61 (by decide) (fun c2 => ?_) (fun c2 => ?_)
    · have h := ite_t c2 h
      refine lv_iconst (v := -1) hx hb dX4_freeRow_80 (by decide) ?_
      obtain ⟨rfl, rfl⟩ := ret2 h; exact cw_iret hx hb hr hlocks hO dX4_freeRow_81
    · have h := ite_f c2 h
      refine lv_iload_n hx hb dX4_freeRow_64 rfl (lv_at hl 1 rfl) ?_
      refine lv_iload_n hx hb dX4_freeRow_65 rfl (lv_at hl 2 rfl) ?_
      refine lv_ishr hx hb dX4_freeRow_66 ?_
      refine lv_iconst (v := 1) hx hb dX4_freeRow_67 (by decide) ?_
      refine lv_iand hx hb dX4_freeRow_68 ?_
      refine lv_if_ne (tgt := 74) hx hb dX4_freeRow_69 (by decide) (fun c3 => ?_) (fun c3 => ?_)
      · have h := ite_f c3 h
        refine lv_iinc (v := x2 + (1 : Int32)) (lv' := [(2, .int (x2 + (1 : Int32))), (0, .ref (ad (182 + 9 * x0))), (1, .int x1)]) hx hb dX4_freeRow_74 hl (k := 2) rfl rfl (by decide) rfl (fun ls hl => ?_)
        refine lv_goto (tgt := 58) hx hb dX4_freeRow_77 (by decide) ?_
        exact ih x0 hx0 x1 (x2 + (1 : Int32)) _ _ _ _ h hO (lv_sub hl [1, 2, 0] rfl)
      · have h := ite_t c3 h
        refine lv_iload_n hx hb dX4_freeRow_72 rfl (lv_at hl 2 rfl) ?_
        obtain ⟨rfl, rfl⟩ := ret2 h; exact cw_iret hx hb hr hlocks hO dX4_freeRow_73
set_option maxHeartbeats 4000000 in
set_option maxRecDepth 100000 in
theorem c_Pile_freeRow_L4 {l : Launch} {D : va_G} {A : Nat → Prop} {ad : Nat → Nat} {cA : Nat → ClassId} {tb0 tb1 : Nat} {p : Program} {e : Env} {s : State} {m : MethodId} {args : Array Value} {below : List Frame} {meth : Method} {c : Code} (S : CallFix p m c cX4_freeRow 3 s args (wv yX4_freeRow cX4_freeRow 3 (some .int)) RX4) (hr : meth.sig.returnType = some .int) (hlocks : meth.locks = false) (hK : cwK D A ad cA tb0 tb1 s) (r : Int32) (st' : CwS) : ∀ (n : Nat) (x0 : Nat) (hx0 : x0 < 10) (x1 : Int32) (x2 : Int32) (st : CwS) (H : Heap) (locs : List Loc) (ls : Array Slot), j_Pile_freeRow_L4 n x0 x1 x2 st = some (r, st') → cwO D A ad cA s st H locs → lv_has ls 3 [(0, .ref (ad (182 + 9 * x0))), (1, .int x1), (2, .int x2)] → W p l e ({ frames := 0, cells := 0, slots := 0, locals := 0 }) s m args below meth c H locs 0 0 (MQ below (cwQi D A ad cA tb0 tb1 r st') args s 0 0 A) (F0 m 4 ls []) := by
  obtain ⟨hx, hb, hml, hown, hts⟩ := S
  have hgw := fun (w : Cond) (h : w ∈ gwW) => hts w (List.mem_cons_of_mem _ h)
  have k9 := hgw _ w_89a9db98
  have k15 := hgw _ w_c5b43c70
  have k19 := hgw _ w_311ac5d4
  intro n
  induction n with
  | zero =>
    intro x0 hx0 x1 x2 st H locs ls h hO hl
    cases h
  | succ n ih =>
    intro x0 hx0 x1 x2 st H locs ls h hO hl
    unfold j_Pile_freeRow_L4 at h
    refine lv_iload_n hx hb dX4_freeRow_4 rfl (lv_at hl 2 rfl) ?_
    refine lv_aload_n hx hb dX4_freeRow_5 rfl (lv_at hl 0 rfl) ?_
    refine gf_Pile_height hx hb hgw iwPile hown hK hO hx0 k19 dX4_freeRow_6 ?_
    refine lv_icmp_ge (tgt := 56) hx hb dX4_freeRow_9 (by decide) (fun c1 => ?_) (fun c1 => ?_)
    · have h := ite_t c1 h
      refine lv_iconst (v := 0) hx hb dX4_freeRow_56 (by decide) ?_
      refine lv_istore_n (lv' := [(2, .int ((0 : Int32))), (0, .ref (ad (182 + 9 * x0))), (1, .int x1)]) hx hb dX4_freeRow_57 rfl hl (by decide) rfl (fun ls hl => ?_)
      exact c_Pile_freeRow_L58 ⟨hx, hb, hml, hown, hts⟩ hr hlocks hK r st' 13 x0 hx0 x1 ((0 : Int32)) _ _ _ _ h hO (lv_sub hl [1, 2, 0] rfl)
    · have h := ite_f c1 h
      refine lv_iload_n hx hb dX4_freeRow_12 rfl (lv_at hl 2 rfl) ?_
      refine lv_bipush (v := 12) hx hb dX4_freeRow_13 (by decide) ?_
      refine lv_icmp_ge (tgt := 56) hx hb dX4_freeRow_15 (by decide) (fun c4 => ?_) (fun c4 => ?_)
      · have h := ite_t c4 h
        refine lv_iconst (v := 0) hx hb dX4_freeRow_56 (by decide) ?_
        refine lv_istore_n (lv' := [(2, .int ((0 : Int32))), (0, .ref (ad (182 + 9 * x0))), (1, .int x1)]) hx hb dX4_freeRow_57 rfl hl (by decide) rfl (fun ls hl => ?_)
        exact c_Pile_freeRow_L58 ⟨hx, hb, hml, hown, hts⟩ hr hlocks hK r st' 13 x0 hx0 x1 ((0 : Int32)) _ _ _ _ h hO (lv_sub hl [1, 2, 0] rfl)
      · have h := ite_f c4 h
        refine lv_aload_n hx hb dX4_freeRow_18 rfl (lv_at hl 0 rfl) ?_
        refine gf_Pile_kinds hx hb hgw iwPile hown hK hO hx0 k9 dX4_freeRow_19 ?_
        refine lv_iload_n hx hb dX4_freeRow_22 rfl (lv_at hl 2 rfl) ?_
        obtain ⟨hc5, h⟩ := ck_some h
        refine al_PKinds hx hb hK hO hx0 hc5 dX4_freeRow_23 ?_
        refine lv_iconst (v := 1) hx hb dX4_freeRow_24 (by decide) ?_
        refine lv_icmp_eq (tgt := 38) hx hb dX4_freeRow_25 (by decide) (fun c6 => ?_) (fun c6 => ?_)
        · have h := ite_t c6 h
          refine lv_iload_n hx hb dX4_freeRow_38 rfl (lv_at hl 1 rfl) ?_
          refine lv_iconst (v := 1) hx hb dX4_freeRow_39 (by decide) ?_
          refine lv_aload_n hx hb dX4_freeRow_40 rfl (lv_at hl 0 rfl) ?_
          refine gf_Pile_numbers hx hb hgw iwPile hown hK hO hx0 k15 dX4_freeRow_41 ?_
          refine lv_iload_n hx hb dX4_freeRow_44 rfl (lv_at hl 2 rfl) ?_
          obtain ⟨hc7, h⟩ := ck_some h
          refine al_PNums hx hb hK hO hx0 hc7 dX4_freeRow_45 ?_
          refine lv_l2i hx hb dX4_freeRow_46 rfl ?_
          refine lv_ishl hx hb dX4_freeRow_47 ?_
          refine lv_ior hx hb dX4_freeRow_48 ?_
          refine lv_istore_n (lv' := [(1, .int (x1 ||| (((1 : Int32)) <<< (((gL st 6 x0 x2.toNatClampNeg).toInt32) &&& 31)))), (0, .ref (ad (182 + 9 * x0))), (2, .int x2)]) hx hb dX4_freeRow_49 rfl hl (by decide) rfl (fun ls hl => ?_)
          refine lv_iinc (v := x2 + (1 : Int32)) (lv' := [(2, .int (x2 + (1 : Int32))), (1, .int (x1 ||| (((1 : Int32)) <<< (((gL st 6 x0 x2.toNatClampNeg).toInt32) &&& 31)))), (0, .ref (ad (182 + 9 * x0)))]) hx hb dX4_freeRow_50 hl (k := 2) rfl rfl (by decide) rfl (fun ls hl => ?_)
          refine lv_goto (tgt := 4) hx hb dX4_freeRow_53 (by decide) ?_
          exact ih x0 hx0 (x1 ||| (((1 : Int32)) <<< (((gL st 6 x0 x2.toNatClampNeg).toInt32) &&& 31))) (x2 + (1 : Int32)) _ _ _ _ h hO (lv_sub hl [2, 1, 0] rfl)
        · have h := ite_f c6 h
          refine lv_aload_n hx hb dX4_freeRow_28 rfl (lv_at hl 0 rfl) ?_
          refine gf_Pile_kinds hx hb hgw iwPile hown hK hO hx0 k9 dX4_freeRow_29 ?_
          refine lv_iload_n hx hb dX4_freeRow_32 rfl (lv_at hl 2 rfl) ?_
          obtain ⟨hc8, h⟩ := ck_some h
          refine al_PKinds hx hb hK hO hx0 hc8 dX4_freeRow_33 ?_
          refine lv_iconst (v := 2) hx hb dX4_freeRow_34 (by decide) ?_
          refine lv_icmp_ne (tgt := 50) hx hb dX4_freeRow_35 (by decide) (fun c9 => ?_) (fun c9 => ?_)
          · have h := ite_f c9 h
            refine lv_iinc (v := x2 + (1 : Int32)) (lv' := [(2, .int (x2 + (1 : Int32))), (0, .ref (ad (182 + 9 * x0))), (1, .int x1)]) hx hb dX4_freeRow_50 hl (k := 2) rfl rfl (by decide) rfl (fun ls hl => ?_)
            refine lv_goto (tgt := 4) hx hb dX4_freeRow_53 (by decide) ?_
            exact ih x0 hx0 x1 (x2 + (1 : Int32)) _ _ _ _ h hO (lv_sub hl [1, 2, 0] rfl)
          · have h := ite_t c9 h
            refine lv_iload_n hx hb dX4_freeRow_38 rfl (lv_at hl 1 rfl) ?_
            refine lv_iconst (v := 1) hx hb dX4_freeRow_39 (by decide) ?_
            refine lv_aload_n hx hb dX4_freeRow_40 rfl (lv_at hl 0 rfl) ?_
            refine gf_Pile_numbers hx hb hgw iwPile hown hK hO hx0 k15 dX4_freeRow_41 ?_
            refine lv_iload_n hx hb dX4_freeRow_44 rfl (lv_at hl 2 rfl) ?_
            obtain ⟨hc10, h⟩ := ck_some h
            refine al_PNums hx hb hK hO hx0 hc10 dX4_freeRow_45 ?_
            refine lv_l2i hx hb dX4_freeRow_46 rfl ?_
            refine lv_ishl hx hb dX4_freeRow_47 ?_
            refine lv_ior hx hb dX4_freeRow_48 ?_
            refine lv_istore_n (lv' := [(1, .int (x1 ||| (((1 : Int32)) <<< (((gL st 6 x0 x2.toNatClampNeg).toInt32) &&& 31)))), (0, .ref (ad (182 + 9 * x0))), (2, .int x2)]) hx hb dX4_freeRow_49 rfl hl (by decide) rfl (fun ls hl => ?_)
            refine lv_iinc (v := x2 + (1 : Int32)) (lv' := [(2, .int (x2 + (1 : Int32))), (1, .int (x1 ||| (((1 : Int32)) <<< (((gL st 6 x0 x2.toNatClampNeg).toInt32) &&& 31)))), (0, .ref (ad (182 + 9 * x0)))]) hx hb dX4_freeRow_50 hl (k := 2) rfl rfl (by decide) rfl (fun ls hl => ?_)
            refine lv_goto (tgt := 4) hx hb dX4_freeRow_53 (by decide) ?_
            exact ih x0 hx0 (x1 ||| (((1 : Int32)) <<< (((gL st 6 x0 x2.toNatClampNeg).toInt32) &&& 31))) (x2 + (1 : Int32)) _ _ _ _ h hO (lv_sub hl [2, 1, 0] rfl)
set_option maxHeartbeats 4000000 in
set_option maxRecDepth 100000 in
theorem c_Pile_freeRow (l : Launch) (D : va_G) (A : Nat → Prop) (ad : Nat → Nat) (cA : Nat → ClassId) (tb0 tb1 : Nat) (a0 : Nat) (ha0 : a0 < 10) (st : CwS) (r : Int32) (st' : CwS) (h : j_Pile_freeRow a0 st = some (r, st')) : Met l yX4_freeRow (wv yX4_freeRow cX4_freeRow 3 (some .int)) ({ frames := 0, cells := 0, slots := 0, locals := 0 }) (va_Pc [.ref (ad (182 + 9 * a0))] (cwU D A ad cA tb0 tb1 st)) (cwQi D A ad cA tb0 tb1 r st') 0 0 A := by
  refine Met.ofW (cc := cX4_freeRow) (maxL := 3) (ret := some .int) (by decide) rfl ?_
  intro p e s m args below meth c s₁ B hml hv
  obtain ⟨rfl, hP, hK⟩ := hv
  have hx := B.exec
  have hb := B.bytes
  have hr := B.returns
  have hts := atoms_spec (ws := wv yX4_freeRow cX4_freeRow 3 (some .int)) B.pre
  have hown : s.vm.findClass RX4 = some m.cls := findClass_of_methodNamed B.named
  have hlocks := B.notSynchronized
  have hO : cwO D A ad cA s st s.heap [] := ⟨hP, va_S.rf⟩
  have hl := lv_entry ([.ref (ad (182 + 9 * a0))]) (n := 3) (Nat.le_of_ble_eq_true rfl)
  rw [lg_entry_eq]
  generalize (lg_sl ([.ref (ad (182 + 9 * a0))]) ++ List.replicate (3 - (lg_sl ([.ref (ad (182 + 9 * a0))])).length) Slot.unset).toArray = ls at hl ⊢
  have hl : lv_has ls 3 [(0, .ref (ad (182 + 9 * a0)))] := hl
  have _h0 := hO
  have hgw := fun (w : Cond) (h : w ∈ gwW) => hts w (List.mem_cons_of_mem _ h)
  have k9 := hgw _ w_89a9db98
  have k15 := hgw _ w_c5b43c70
  have k19 := hgw _ w_311ac5d4
  unfold j_Pile_freeRow at h
  refine lv_iconst (v := 0) hx hb dX4_freeRow_0 (by decide) ?_
  refine lv_istore_n (lv' := [(1, .int ((0 : Int32))), (0, .ref (ad (182 + 9 * a0)))]) hx hb dX4_freeRow_1 rfl hl (by decide) rfl (fun ls hl => ?_)
  refine lv_iconst (v := 0) hx hb dX4_freeRow_2 (by decide) ?_
  refine lv_istore_n (lv' := [(2, .int ((0 : Int32))), (1, .int ((0 : Int32))), (0, .ref (ad (182 + 9 * a0)))]) hx hb dX4_freeRow_3 rfl hl (by decide) rfl (fun ls hl => ?_)
  exact c_Pile_freeRow_L4 ⟨hx, hb, hml, hown, hts⟩ hr hlocks hK r st' 13 a0 ha0 ((0 : Int32)) ((0 : Int32)) _ _ _ _ h hO (lv_sub hl [2, 1, 0] rfl)
