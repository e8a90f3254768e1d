-- Beh append
def j_Beh_append (a0 : Nat) (a1 : Int32) (a2 : Int32) (st : CwS) : Option (Int32 × CwS) :=
  if (gI st 2 a0 0) < ((24 : Int32)) then
    ck (ix (gI st 2 a0 0) 24) <|
    ck (ix (gI (sI st 0 a0 ((gI st 2 a0 0).toNatClampNeg) a1) 2 a0 0) 24) <|
    some ((1 : Int32), sI (sI (sI st 0 a0 ((gI st 2 a0 0).toNatClampNeg) a1) 1 a0 ((gI (sI st 0 a0 ((gI st 2 a0 0).toNatClampNeg) a1) 2 a0 0).toNatClampNeg) a2) 2 a0 0 ((gI (sI (sI st 0 a0 ((gI st 2 a0 0).toNatClampNeg) a1) 1 a0 ((gI (sI st 0 a0 ((gI st 2 a0 0).toNatClampNeg) a1) 2 a0 0).toNatClampNeg) a2) 2 a0 0) + ((1 : Int32))))
  else
    some ((0 : Int32), st)
set_option maxHeartbeats 4000000 in
set_option maxRecDepth 100000 in
theorem c_Beh_append (l : Launch) (D : va_G) (A : Nat → Prop) (ad : Nat → Nat) (cA : Nat → ClassId) (tb0 tb1 : Nat) (a0 : Nat) (ha0 : a0 < 48) (a1 : Int32) (a2 : Int32) (st : CwS) (r : Int32) (st' : CwS) (h : j_Beh_append a0 a1 a2 st = some (r, st')) : Met l yX0_append (wv yX0_append cX0_append 3 (some .boolean)) ({ frames := 0, cells := 0, slots := 0, locals := 0 }) (va_Pc [.ref (ad (4 + 3 * a0)), .int a1, .int a2] (cwU D A ad cA tb0 tb1 st)) (cwQi D A ad cA tb0 tb1 r st') 0 0 A := by
  refine Met.ofW (cc := cX0_append) (maxL := 3) (ret := some .boolean) (by decide) rfl ?_
  intro p e s m args below meth c s₁ B hml hv
  obtain ⟨rfl, hP, hK⟩ := hv
  have hx := B.exec
  have hb := B.bytes
  have hr := B.returns
  have hts := atoms_spec (ws := wv yX0_append cX0_append 3 (some .boolean)) B.pre
  have hown : s.vm.findClass RX0 = some m.cls := findClass_of_methodNamed B.named
  have hlocks := B.notSynchronized
  have hO : cwO D A ad cA s st s.heap [] := ⟨hP, va_S.rf⟩
  have hl := lv_entry ([.ref (ad (4 + 3 * a0)), .int a1, .int a2]) (n := 3) (Nat.le_of_ble_eq_true rfl)
  rw [lg_entry_eq]
  generalize (lg_sl ([.ref (ad (4 + 3 * a0)), .int a1, .int a2]) ++ List.replicate (3 - (lg_sl ([.ref (ad (4 + 3 * a0)), .int a1, .int a2])).length) Slot.unset).toArray = ls at hl ⊢
  have hl : lv_has ls 3 [(0, .ref (ad (4 + 3 * a0))), (1, .int a1), (2, .int a2)] := hl
  have _h0 := hO
  have hgw := fun (w : Cond) (h : w ∈ gwW) => hts w (List.mem_cons_of_mem _ h)
  have k9 := hgw _ w_92e4e692
  have k15 := hgw _ w_3596c244
  have k18 := hgw _ w_ac02c5f5
  unfold j_Beh_append at h
  refine lv_aload_n hx hb dX0_append_0 rfl (lv_at hl 0 rfl) ?_
  refine gf_Beh_count hx hb hgw iwBeh hown hK hO ha0 k18 dX0_append_1 ?_
  refine lv_bipush (v := 24) hx hb dX0_append_4 (by decide) ?_
  refine lv_icmp_lt (tgt := 11) hx hb dX0_append_6 (by decide) (fun c1 => ?_) (fun c1 => ?_)
  · have h := ite_t c1 h
    refine lv_aload_n hx hb dX0_append_11 rfl (lv_at hl 0 rfl) ?_
    refine gf_Beh_codes hx hb hgw iwBeh hown hK hO ha0 k9 dX0_append_12 ?_
    refine lv_aload_n hx hb dX0_append_15 rfl (lv_at hl 0 rfl) ?_
    refine gf_Beh_count hx hb hgw iwBeh hown hK hO ha0 k18 dX0_append_16 ?_
    refine lv_iload_n hx hb dX0_append_19 rfl (lv_at hl 1 rfl) ?_
    obtain ⟨hc2, h⟩ := ck_some h
    refine as_Codes hx hb hK hO ha0 hc2 dX0_append_20 (fun H locs hO => ?_)
    refine lv_aload_n hx hb dX0_append_21 rfl (lv_at hl 0 rfl) ?_
    refine gf_Beh_numbers hx hb hgw iwBeh hown hK hO ha0 k15 dX0_append_22 ?_
    refine lv_aload_n hx hb dX0_append_25 rfl (lv_at hl 0 rfl) ?_
    refine gf_Beh_count hx hb hgw iwBeh hown hK hO ha0 k18 dX0_append_26 ?_
    refine lv_iload_n hx hb dX0_append_29 rfl (lv_at hl 2 rfl) ?_
    obtain ⟨hc3, h⟩ := ck_some h
    refine as_Nums hx hb hK hO ha0 hc3 dX0_append_30 (fun H locs hO => ?_)
    refine lv_aload_n hx hb dX0_append_31 rfl (lv_at hl 0 rfl) ?_
    refine lv_dup hx hb dX0_append_32 rfl ?_
    refine gf_Beh_count hx hb hgw iwBeh hown hK hO ha0 k18 dX0_append_33 ?_
    refine lv_iconst (v := 1) hx hb dX0_append_36 (by decide) ?_
    refine lv_iadd hx hb dX0_append_37 ?_
    refine pf_Beh_count hx hb hgw iwBeh hown hK hO ha0 k18 dX0_append_38 (fun H locs hO => ?_)
    refine lv_iconst (v := 1) hx hb dX0_append_41 (by decide) ?_
    obtain ⟨rfl, rfl⟩ := ret2 h; exact cw_zret hx hb hr hlocks hO rfl dX0_append_42
  · have h := ite_f c1 h
    refine lv_iconst (v := 0) hx hb dX0_append_9 (by decide) ?_
    obtain ⟨rfl, rfl⟩ := ret2 h; exact cw_zret hx hb hr hlocks hO rfl dX0_append_10
-- Beh hasPlace
def j_Beh_hasPlace (a0 : Nat) (a1 : Int32) (st : CwS) : Option (Int32 × CwS) :=
  if a1 < ((0 : Int32)) then
    some ((0 : Int32), st)
  else
    if (gI st 2 a0 0) < a1 then
      some ((0 : Int32), st)
    else
      some ((1 : Int32), st)
set_option maxHeartbeats 4000000 in
set_option maxRecDepth 100000 in
theorem c_Beh_hasPlace (l : Launch) (D : va_G) (A : Nat → Prop) (ad : Nat → Nat) (cA : Nat → ClassId) (tb0 tb1 : Nat) (a0 : Nat) (ha0 : a0 < 48) (a1 : Int32) (st : CwS) (r : Int32) (st' : CwS) (h : j_Beh_hasPlace a0 a1 st = some (r, st')) : Met l yX0_hasPlace (wv yX0_hasPlace cX0_hasPlace 2 (some .boolean)) ({ frames := 0, cells := 0, slots := 0, locals := 0 }) (va_Pc [.ref (ad (4 + 3 * a0)), .int a1] (cwU D A ad cA tb0 tb1 st)) (cwQi D A ad cA tb0 tb1 r st') 0 0 A := by
  refine Met.ofW (cc := cX0_hasPlace) (maxL := 2) (ret := some .boolean) (by decide) rfl ?_
  intro p e s m args below meth c s₁ B hml hv
  obtain ⟨rfl, hP, hK⟩ := hv
  have hx := B.exec
  have hb := B.bytes
  have hr := B.returns
  have hts := atoms_spec (ws := wv yX0_hasPlace cX0_hasPlace 2 (some .boolean)) B.pre
  have hown : s.vm.findClass RX0 = some m.cls := findClass_of_methodNamed B.named
  have hlocks := B.notSynchronized
  have hO : cwO D A ad cA s st s.heap [] := ⟨hP, va_S.rf⟩
  have hl := lv_entry ([.ref (ad (4 + 3 * a0)), .int a1]) (n := 2) (Nat.le_of_ble_eq_true rfl)
  rw [lg_entry_eq]
  generalize (lg_sl ([.ref (ad (4 + 3 * a0)), .int a1]) ++ List.replicate (2 - (lg_sl ([.ref (ad (4 + 3 * a0)), .int a1])).length) Slot.unset).toArray = ls at hl ⊢
  have hl : lv_has ls 2 [(0, .ref (ad (4 + 3 * a0))), (1, .int a1)] := hl
  have _h0 := hO
  have hgw := fun (w : Cond) (h : w ∈ gwW) => hts w (List.mem_cons_of_mem _ h)
  have k18 := hgw _ w_ac02c5f5
  unfold j_Beh_hasPlace at h
  refine lv_iload_n hx hb dX0_hasPlace_0 rfl (lv_at hl 1 rfl) ?_
  refine lv_if_lt (tgt := 16) hx hb dX0_hasPlace_1 (by decide) (fun c1 => ?_) (fun c1 => ?_)
  · have h := ite_t c1 h
    refine lv_iconst (v := 0) hx hb dX0_hasPlace_16 (by decide) ?_
    obtain ⟨rfl, rfl⟩ := ret2 h; exact cw_zret hx hb hr hlocks hO rfl dX0_hasPlace_17
  · have h := ite_f c1 h
    refine lv_iload_n hx hb dX0_hasPlace_4 rfl (lv_at hl 1 rfl) ?_
    refine lv_aload_n hx hb dX0_hasPlace_5 rfl (lv_at hl 0 rfl) ?_
    refine gf_Beh_count hx hb hgw iwBeh hown hK hO ha0 k18 dX0_hasPlace_6 ?_
    refine lv_icmp_gt (tgt := 16) hx hb dX0_hasPlace_9 (by decide) (fun c2 => ?_) (fun c2 => ?_)
    · have h := ite_t c2 h
      refine lv_iconst (v := 0) hx hb dX0_hasPlace_16 (by decide) ?_
      obtain ⟨rfl, rfl⟩ := ret2 h; exact cw_zret hx hb hr hlocks hO rfl dX0_hasPlace_17
    · have h := ite_f c2 h
      refine lv_iconst (v := 1) hx hb dX0_hasPlace_12 (by decide) ?_
      refine lv_goto (tgt := 17) hx hb dX0_hasPlace_13 (by decide) ?_
      obtain ⟨rfl, rfl⟩ := ret2 h; exact cw_zret hx hb hr hlocks hO rfl dX0_hasPlace_17
-- Book find
def j_Book_find (a1 : Int32) (a2 : Int32) (st : CwS) : Option (Nat × CwS) :=
  ck (ix ((a1 * ((6 : Int32))) + a2) 48) <|
  some (((a1 * ((6 : Int32))) + a2).toNatClampNeg, st)
set_option maxHeartbeats 4000000 in
set_option maxRecDepth 100000 in
theorem c_Book_find (l : Launch) (D : va_G) (A : Nat → Prop) (ad : Nat → Nat) (cA : Nat → ClassId) (tb0 tb1 : Nat) (a1 : Int32) (a2 : Int32) (st : CwS) (r : Nat) (st' : CwS) (h : j_Book_find a1 a2 st = some (r, st')) : Met l yX1_find (wv yX1_find cX1_find 3 (some (.object "CallWalker$Behaviour"))) ({ frames := 0, cells := 0, slots := 0, locals := 0 }) (va_Pc [.ref (ad 1), .int a1, .int a2] (cwU D A ad cA tb0 tb1 st)) (cwQr D A ad cA tb0 tb1 (4 + 3 * r) st') 0 0 A := by
  refine Met.ofW (cc := cX1_find) (maxL := 3) (ret := some (.object "CallWalker$Behaviour")) (by decide) rfl ?_
  intro p e s m args below meth c s₁ B hml hv
  obtain ⟨rfl, hP, hK⟩ := hv
  have hx := B.exec
  have hb := B.bytes
  have hr := B.returns
  have hts := atoms_spec (ws := wv yX1_find cX1_find 3 (some (.object "CallWalker$Behaviour"))) B.pre
  have hown : s.vm.findClass RX1 = some m.cls := findClass_of_methodNamed B.named
  have hlocks := B.notSynchronized
  have hO : cwO D A ad cA s st s.heap [] := ⟨hP, va_S.rf⟩
  have hl := lv_entry ([.ref (ad 1), .int a1, .int a2]) (n := 3) (Nat.le_of_ble_eq_true rfl)
  rw [lg_entry_eq]
  generalize (lg_sl ([.ref (ad 1), .int a1, .int a2]) ++ List.replicate (3 - (lg_sl ([.ref (ad 1), .int a1, .int a2])).length) Slot.unset).toArray = ls at hl ⊢
  have hl : lv_has ls 3 [(0, .ref (ad 1)), (1, .int a1), (2, .int a2)] := hl
  have _h0 := hO
  have hgw := fun (w : Cond) (h : w ∈ gwW) => hts w (List.mem_cons_of_mem _ h)
  have k11 := hgw _ w_cc2d62dd
  unfold j_Book_find at h
  refine lv_aload_n hx hb dX1_find_0 rfl (lv_at hl 0 rfl) ?_
  refine gf_Book_behaviours hx hb hgw iwBook hown hK hO k11 dX1_find_1 ?_
  refine lv_iload_n hx hb dX1_find_4 rfl (lv_at hl 1 rfl) ?_
  refine lv_bipush (v := 6) hx hb dX1_find_5 (by decide) ?_
  refine lv_imul hx hb dX1_find_7 ?_
  refine lv_iload_n hx hb dX1_find_8 rfl (lv_at hl 2 rfl) ?_
  refine lv_iadd hx hb dX1_find_9 ?_
  obtain ⟨hc1, h⟩ := ck_some h
  refine al_BehArr hx hb hK hO hc1 dX1_find_10 ?_
  obtain ⟨rfl, rfl⟩ := ret2 h; exact cw_aret hx hb hr ⟨_, rfl⟩ hlocks hO dX1_find_11
-- Ledger hasEvent
def j_Ledger_hasEvent (a1 : Int32) (st : CwS) : Option (Int32 × CwS) :=
  if a1 < ((0 : Int32)) then
    some ((0 : Int32), st)
  else
    if (gI st 5 0 0) ≤ a1 then
      some ((0 : Int32), st)
    else
      some ((1 : Int32), st)
set_option maxHeartbeats 4000000 in
set_option maxRecDepth 100000 in
theorem c_Ledger_hasEvent (l : Launch) (D : va_G) (A : Nat → Prop) (ad : Nat → Nat) (cA : Nat → ClassId) (tb0 tb1 : Nat) (a1 : Int32) (st : CwS) (r : Int32) (st' : CwS) (h : j_Ledger_hasEvent a1 st = some (r, st')) : Met l yX3_hasEvent (wv yX3_hasEvent cX3_hasEvent 2 (some .boolean)) ({ frames := 0, cells := 0, slots := 0, locals := 0 }) (va_Pc [.ref (ad 148), .int a1] (cwU D A ad cA tb0 tb1 st)) (cwQi D A ad cA tb0 tb1 r st') 0 0 A := by
  refine Met.ofW (cc := cX3_hasEvent) (maxL := 2) (ret := some .boolean) (by decide) rfl ?_
  intro p e s m args below meth c s₁ B hml hv
  obtain ⟨rfl, hP, hK⟩ := hv
  have hx := B.exec
  have hb := B.bytes
  have hr := B.returns
  have hts := atoms_spec (ws := wv yX3_hasEvent cX3_hasEvent 2 (some .boolean)) B.pre
  have hown : s.vm.findClass RX3 = some m.cls := findClass_of_methodNamed B.named
  have hlocks := B.notSynchronized
  have hO : cwO D A ad cA s st s.heap [] := ⟨hP, va_S.rf⟩
  have hl := lv_entry ([.ref (ad 148), .int a1]) (n := 2) (Nat.le_of_ble_eq_true rfl)
  rw [lg_entry_eq]
  generalize (lg_sl ([.ref (ad 148), .int a1]) ++ List.replicate (2 - (lg_sl ([.ref (ad 148), .int a1])).length) Slot.unset).toArray = ls at hl ⊢
  have hl : lv_has ls 2 [(0, .ref (ad 148)), (1, .int a1)] := hl
  have _h0 := hO
  have hgw := fun (w : Cond) (h : w ∈ gwW) => hts w (List.mem_cons_of_mem _ h)
  have k25 := hgw _ w_0675cc0a
  unfold j_Ledger_hasEvent at h
  refine lv_iload_n hx hb dX3_hasEvent_0 rfl (lv_at hl 1 rfl) ?_
  refine lv_if_lt (tgt := 16) hx hb dX3_hasEvent_1 (by decide) (fun c1 => ?_) (fun c1 => ?_)
  · have h := ite_t c1 h
    refine lv_iconst (v := 0) hx hb dX3_hasEvent_16 (by decide) ?_
    obtain ⟨rfl, rfl⟩ := ret2 h; exact cw_zret hx hb hr hlocks hO rfl dX3_hasEvent_17
  · have h := ite_f c1 h
    refine lv_iload_n hx hb dX3_hasEvent_4 rfl (lv_at hl 1 rfl) ?_
    refine lv_aload_n hx hb dX3_hasEvent_5 rfl (lv_at hl 0 rfl) ?_
    refine gf_Ledger_eventCount hx hb hgw iwLedger hown hK hO k25 dX3_hasEvent_6 ?_
    refine lv_icmp_ge (tgt := 16) hx hb dX3_hasEvent_9 (by decide) (fun c2 => ?_) (fun c2 => ?_)
    · have h := ite_t c2 h
      refine lv_iconst (v := 0) hx hb dX3_hasEvent_16 (by decide) ?_
      obtain ⟨rfl, rfl⟩ := ret2 h; exact cw_zret hx hb hr hlocks hO rfl dX3_hasEvent_17
    · have h := ite_f c2 h
      refine lv_iconst (v := 1) hx hb dX3_hasEvent_12 (by decide) ?_
      refine lv_goto (tgt := 17) hx hb dX3_hasEvent_13 (by decide) ?_
      obtain ⟨rfl, rfl⟩ := ret2 h; exact cw_zret hx hb hr hlocks hO rfl dX3_hasEvent_17
-- Ledger addEvent
def j_Ledger_addEvent (a1 : Int32) (a2 : Int64) (st : CwS) : Option (Int32 × CwS) :=
  if (gI st 5 0 0) < ((40 : Int32)) then
    ck (ix (gI st 5 0 0) 40) <|
    ck (ix (gI (sI st 4 0 ((gI st 5 0 0).toNatClampNeg) a1) 5 0 0) 40) <|
    some ((1 : Int32), sI (sL (sI st 4 0 ((gI st 5 0 0).toNatClampNeg) a1) 2 0 ((gI (sI st 4 0 ((gI st 5 0 0).toNatClampNeg) a1) 5 0 0).toNatClampNeg) a2) 5 0 0 ((gI (sL (sI st 4 0 ((gI st 5 0 0).toNatClampNeg) a1) 2 0 ((gI (sI st 4 0 ((gI st 5 0 0).toNatClampNeg) a1) 5 0 0).toNatClampNeg) a2) 5 0 0) + ((1 : Int32))))
  else
    some ((0 : Int32), st)
set_option maxHeartbeats 4000000 in
set_option maxRecDepth 100000 in
theorem c_Ledger_addEvent (l : Launch) (D : va_G) (A : Nat → Prop) (ad : Nat → Nat) (cA : Nat → ClassId) (tb0 tb1 : Nat) (a1 : Int32) (a2 : Int64) (st : CwS) (r : Int32) (st' : CwS) (h : j_Ledger_addEvent a1 a2 st = some (r, st')) : Met l yX3_addEvent (wv yX3_addEvent cX3_addEvent 4 (some .boolean)) ({ frames := 0, cells := 0, slots := 0, locals := 0 }) (va_Pc [.ref (ad 148), .int a1, .long a2] (cwU D A ad cA tb0 tb1 st)) (cwQi D A ad cA tb0 tb1 r st') 0 0 A := by
  refine Met.ofW (cc := cX3_addEvent) (maxL := 4) (ret := some .boolean) (by decide) rfl ?_
  intro p e s m args below meth c s₁ B hml hv
  obtain ⟨rfl, hP, hK⟩ := hv
  have hx := B.exec
  have hb := B.bytes
  have hr := B.returns
  have hts := atoms_spec (ws := wv yX3_addEvent cX3_addEvent 4 (some .boolean)) B.pre
  have hown : s.vm.findClass RX3 = some m.cls := findClass_of_methodNamed B.named
  have hlocks := B.notSynchronized
  have hO : cwO D A ad cA s st s.heap [] := ⟨hP, va_S.rf⟩
  have hl := lv_entry ([.ref (ad 148), .int a1, .long a2]) (n := 4) (Nat.le_of_ble_eq_true rfl)
  rw [lg_entry_eq]
  generalize (lg_sl ([.ref (ad 148), .int a1, .long a2]) ++ List.replicate (4 - (lg_sl ([.ref (ad 148), .int a1, .long a2])).length) Slot.unset).toArray = ls at hl ⊢
  have hl : lv_has ls 4 [(0, .ref (ad 148)), (1, .int a1), (2, .long a2)] := hl
  have _h0 := hO
  have hgw := fun (w : Cond) (h : w ∈ gwW) => hts w (List.mem_cons_of_mem _ h)
  have k18 := hgw _ w_ba44a13a
  have k22 := hgw _ w_2b6c9491
  have k25 := hgw _ w_0675cc0a
  unfold j_Ledger_addEvent at h
  refine lv_aload_n hx hb dX3_addEvent_0 rfl (lv_at hl 0 rfl) ?_
  refine gf_Ledger_eventCount hx hb hgw iwLedger hown hK hO k25 dX3_addEvent_1 ?_
  refine lv_bipush (v := 40) hx hb dX3_addEvent_4 (by decide) ?_
  refine lv_icmp_lt (tgt := 11) hx hb dX3_addEvent_6 (by decide) (fun c1 => ?_) (fun c1 => ?_)
  · have h := ite_t c1 h
    refine lv_aload_n hx hb dX3_addEvent_11 rfl (lv_at hl 0 rfl) ?_
    refine gf_Ledger_eventContracts hx hb hgw iwLedger hown hK hO k18 dX3_addEvent_12 ?_
    refine lv_aload_n hx hb dX3_addEvent_15 rfl (lv_at hl 0 rfl) ?_
    refine gf_Ledger_eventCount hx hb hgw iwLedger hown hK hO k25 dX3_addEvent_16 ?_
    refine lv_iload_n hx hb dX3_addEvent_19 rfl (lv_at hl 1 rfl) ?_
    obtain ⟨hc2, h⟩ := ck_some h
    refine as_EvC hx hb hK hO hc2 dX3_addEvent_20 (fun H locs hO => ?_)
    refine lv_aload_n hx hb dX3_addEvent_21 rfl (lv_at hl 0 rfl) ?_
    refine gf_Ledger_eventNumbers hx hb hgw iwLedger hown hK hO k22 dX3_addEvent_22 ?_
    refine lv_aload_n hx hb dX3_addEvent_25 rfl (lv_at hl 0 rfl) ?_
    refine gf_Ledger_eventCount hx hb hgw iwLedger hown hK hO k25 dX3_addEvent_26 ?_
    refine lv_lload_n hx hb dX3_addEvent_29 rfl (lv_at hl 2 rfl) ?_
    obtain ⟨hc3, h⟩ := ck_some h
    refine as_EvN hx hb hK hO hc3 dX3_addEvent_30 (fun H locs hO => ?_)
    refine lv_aload_n hx hb dX3_addEvent_31 rfl (lv_at hl 0 rfl) ?_
    refine lv_dup hx hb dX3_addEvent_32 rfl ?_
    refine gf_Ledger_eventCount hx hb hgw iwLedger hown hK hO k25 dX3_addEvent_33 ?_
    refine lv_iconst (v := 1) hx hb dX3_addEvent_36 (by decide) ?_
    refine lv_iadd hx hb dX3_addEvent_37 ?_
    refine pf_Ledger_eventCount hx hb hgw iwLedger hown hK hO k25 dX3_addEvent_38 (fun H locs hO => ?_)
    refine lv_iconst (v := 1) hx hb dX3_addEvent_41 (by decide) ?_
    obtain ⟨rfl, rfl⟩ := ret2 h; exact cw_zret hx hb hr hlocks hO rfl dX3_addEvent_42
  · have h := ite_f c1 h
    refine lv_iconst (v := 0) hx hb dX3_addEvent_9 (by decide) ?_
    obtain ⟨rfl, rfl⟩ := ret2 h; exact cw_zret hx hb hr hlocks hO rfl dX3_addEvent_10
-- Ledger canMove
def j_Ledger_canMove (a1 : Int32) (a2 : Int32) (a3 : Int64) (st : CwS) : Option (Int32 × CwS) :=
  if a1 = a2 then
    some ((1 : Int32), st)
  else
    ck (ix a2 8) <|
    if ((0 : Int32)) < (lg_cmp (gL st 1 0 a2.toNatClampNeg) (((9223372036854775807 : Int64)) - a3)) then
      some ((0 : Int32), st)
    else
      some ((1 : Int32), st)
set_option maxHeartbeats 4000000 in
set_option maxRecDepth 100000 in
theorem c_Ledger_canMove (l : Launch) (D : va_G) (A : Nat → Prop) (ad : Nat → Nat) (cA : Nat → ClassId) (tb0 tb1 : Nat) (a1 : Int32) (a2 : Int32) (a3 : Int64) (st : CwS) (r : Int32) (st' : CwS) (h : j_Ledger_canMove a1 a2 a3 st = some (r, st')) : Met l yX3_canMove (wv yX3_canMove cX3_canMove 5 (some .boolean)) ({ frames := 0, cells := 0, slots := 0, locals := 0 }) (va_Pc [.ref (ad 148), .int a1, .int a2, .long a3] (cwU D A ad cA tb0 tb1 st)) (cwQi D A ad cA tb0 tb1 r st') 0 0 A := by
  refine Met.ofW (cc := cX3_canMove) (maxL := 5) (ret := some .boolean) (by decide) rfl ?_
  intro p e s m args below meth c s₁ B hml hv
  obtain ⟨rfl, hP, hK⟩ := hv
  have hx := B.exec
  have hb := B.bytes
  have hr := B.returns
  have hts := atoms_spec (ws := wv yX3_canMove cX3_canMove 5 (some .boolean)) B.pre
  have hown : s.vm.findClass RX3 = some m.cls := findClass_of_methodNamed B.named
  have hlocks := B.notSynchronized
  have hO : cwO D A ad cA s st s.heap [] := ⟨hP, va_S.rf⟩
  have hl := lv_entry ([.ref (ad 148), .int a1, .int a2, .long a3]) (n := 5) (Nat.le_of_ble_eq_true rfl)
  rw [lg_entry_eq]
  generalize (lg_sl ([.ref (ad 148), .int a1, .int a2, .long a3]) ++ List.replicate (5 - (lg_sl ([.ref (ad 148), .int a1, .int a2, .long a3])).length) Slot.unset).toArray = ls at hl ⊢
  have hl : lv_has ls 5 [(0, .ref (ad 148)), (1, .int a1), (2, .int a2), (3, .long a3)] := hl
  have _h0 := hO
  have hgw := fun (w : Cond) (h : w ∈ gwW) => hts w (List.mem_cons_of_mem _ h)
  have k15 := hgw _ w_93fec1d4
  have k42 := hgw _ w_7e4a3a45
  unfold j_Ledger_canMove at h
  refine lv_iload_n hx hb dX3_canMove_0 rfl (lv_at hl 1 rfl) ?_
  refine lv_iload_n hx hb dX3_canMove_1 rfl (lv_at hl 2 rfl) ?_
  refine lv_icmp_eq (tgt := 20) hx hb dX3_canMove_2 (by decide) (fun c1 => ?_) (fun c1 => ?_)
  · have h := ite_t c1 h
    refine lv_iconst (v := 1) hx hb dX3_canMove_20 (by decide) ?_
    refine lv_goto (tgt := 25) hx hb dX3_canMove_21 (by decide) ?_
    obtain ⟨rfl, rfl⟩ := ret2 h; exact cw_zret hx hb hr hlocks hO rfl dX3_canMove_25
  · have h := ite_f c1 h
    refine lv_aload_n hx hb dX3_canMove_5 rfl (lv_at hl 0 rfl) ?_
    refine gf_Ledger_balances hx hb hgw iwLedger hown hK hO k15 dX3_canMove_6 ?_
    refine lv_iload_n hx hb dX3_canMove_9 rfl (lv_at hl 2 rfl) ?_
    obtain ⟨hc2, h⟩ := ck_some h
    refine al_Bals hx hb hK hO hc2 dX3_canMove_10 ?_
    refine lv_ldc2 hx hb hown k42 dX3_canMove_11 ?_
    refine lv_lload_n hx hb dX3_canMove_14 rfl (lv_at hl 3 rfl) ?_
    refine lv_lsub hx hb dX3_canMove_15 ?_
    refine W.lcmp hx hb dX3_canMove_16 ?_
    refine lv_if_gt (tgt := 24) hx hb dX3_canMove_17 (by decide) (fun c3 => ?_) (fun c3 => ?_)
    · have h := ite_t c3 h
      refine lv_iconst (v := 0) hx hb dX3_canMove_24 (by decide) ?_
      obtain ⟨rfl, rfl⟩ := ret2 h; exact cw_zret hx hb hr hlocks hO rfl dX3_canMove_25
    · have h := ite_f c3 h
      refine lv_iconst (v := 1) hx hb dX3_canMove_20 (by decide) ?_
      refine lv_goto (tgt := 25) hx hb dX3_canMove_21 (by decide) ?_
      obtain ⟨rfl, rfl⟩ := ret2 h; exact cw_zret hx hb hr hlocks hO rfl dX3_canMove_25
-- Ledger move
def j_Ledger_move (a1 : Int32) (a2 : Int32) (a3 : Int64) (st : CwS) : Option CwS :=
  ck (ix a1 8) <|
  ck (ix a1 8) <|
  ck (ix a2 8) <|
  ck (ix a2 8) <|
  some (sL (sL st 1 0 a1.toNatClampNeg ((gL st 1 0 a1.toNatClampNeg) - a3)) 1 0 a2.toNatClampNeg ((gL (sL st 1 0 a1.toNatClampNeg ((gL st 1 0 a1.toNatClampNeg) - a3)) 1 0 a2.toNatClampNeg) + a3))
set_option maxHeartbeats 4000000 in
set_option maxRecDepth 100000 in
theorem c_Ledger_move (l : Launch) (D : va_G) (A : Nat → Prop) (ad : Nat → Nat) (cA : Nat → ClassId) (tb0 tb1 : Nat) (a1 : Int32) (a2 : Int32) (a3 : Int64) (st : CwS) (st' : CwS) (h : j_Ledger_move a1 a2 a3 st = some st') : Met l yX3_move (wv yX3_move cX3_move 5 (none)) ({ frames := 0, cells := 0, slots := 0, locals := 0 }) (va_Pc [.ref (ad 148), .int a1, .int a2, .long a3] (cwU D A ad cA tb0 tb1 st)) (cwQv D A ad cA tb0 tb1 st') 0 0 A := by
  refine Met.ofW (cc := cX3_move) (maxL := 5) (ret := none) (by decide) rfl ?_
  intro p e s m args below meth c s₁ B hml hv
  obtain ⟨rfl, hP, hK⟩ := hv
  have hx := B.exec
  have hb := B.bytes
  have hr := B.returns
  have hts := atoms_spec (ws := wv yX3_move cX3_move 5 (none)) B.pre
  have hown : s.vm.findClass RX3 = some m.cls := findClass_of_methodNamed B.named
  have hlocks := B.notSynchronized
  have hO : cwO D A ad cA s st s.heap [] := ⟨hP, va_S.rf⟩
  have hl := lv_entry ([.ref (ad 148), .int a1, .int a2, .long a3]) (n := 5) (Nat.le_of_ble_eq_true rfl)
  rw [lg_entry_eq]
  generalize (lg_sl ([.ref (ad 148), .int a1, .int a2, .long a3]) ++ List.replicate (5 - (lg_sl ([.ref (ad 148), .int a1, .int a2, .long a3])).length) Slot.unset).toArray = ls at hl ⊢
  have hl : lv_has ls 5 [(0, .ref (ad 148)), (1, .int a1), (2, .int a2), (3, .long a3)] := hl
  have _h0 := hO
  have hgw := fun (w : Cond) (h : w ∈ gwW) => hts w (List.mem_cons_of_mem _ h)
  have k15 := hgw _ w_93fec1d4
  unfold j_Ledger_move at h
  refine lv_aload_n hx hb dX3_move_0 rfl (lv_at hl 0 rfl) ?_
  refine gf_Ledger_balances hx hb hgw iwLedger hown hK hO k15 dX3_move_1 ?_
  refine lv_iload_n hx hb dX3_move_4 rfl (lv_at hl 1 rfl) ?_
  refine lv_dup2_11 hx hb dX3_move_5 rfl rfl ?_
  obtain ⟨hc1, h⟩ := ck_some h
  refine al_Bals hx hb hK hO hc1 dX3_move_6 ?_
  refine lv_lload_n hx hb dX3_move_7 rfl (lv_at hl 3 rfl) ?_
  refine lv_lsub hx hb dX3_move_8 ?_
  obtain ⟨hc2, h⟩ := ck_some h
  refine as_Bals hx hb hK hO hc2 dX3_move_9 (fun H locs hO => ?_)
  refine lv_aload_n hx hb dX3_move_10 rfl (lv_at hl 0 rfl) ?_
  refine gf_Ledger_balances hx hb hgw iwLedger hown hK hO k15 dX3_move_11 ?_
  refine lv_iload_n hx hb dX3_move_14 rfl (lv_at hl 2 rfl) ?_
  refine lv_dup2_11 hx hb dX3_move_15 rfl rfl ?_
  obtain ⟨hc3, h⟩ := ck_some h
  refine al_Bals hx hb hK hO hc3 dX3_move_16 ?_
  refine lv_lload_n hx hb dX3_move_17 rfl (lv_at hl 3 rfl) ?_
  refine lv_ladd hx hb dX3_move_18 ?_
  obtain ⟨hc4, h⟩ := ck_some h
  refine as_Bals hx hb hK hO hc4 dX3_move_19 (fun H locs hO => ?_)
  cases h; exact cw_vret hx hb hr hlocks hO dX3_move_20
-- Ledger keep
def j_Ledger_keep (a1 : Int32) (st : CwS) : Option CwS :=
  ck (ix a1 10) <|
  ck (cpk ((0 : Int32)) ((0 : Int32)) ((64 : Int32)) 64 64) <|
  ck (ix a1 10) <|
  ck (cpk ((0 : Int32)) ((0 : Int32)) ((8 : Int32)) 8 8) <|
  ck (ix a1 10) <|
  some (sI (cL (cL st 0 0 (((0 : Int32)).toNatClampNeg) 3 a1.toNatClampNeg (((0 : Int32)).toNatClampNeg) (((64 : Int32)).toNatClampNeg)) 1 0 (((0 : Int32)).toNatClampNeg) 4 a1.toNatClampNeg (((0 : Int32)).toNatClampNeg) (((8 : Int32)).toNatClampNeg)) 6 0 a1.toNatClampNeg (gI (cL (cL st 0 0 (((0 : Int32)).toNatClampNeg) 3 a1.toNatClampNeg (((0 : Int32)).toNatClampNeg) (((64 : Int32)).toNatClampNeg)) 1 0 (((0 : Int32)).toNatClampNeg) 4 a1.toNatClampNeg (((0 : Int32)).toNatClampNeg) (((8 : Int32)).toNatClampNeg)) 5 0 0))
set_option maxHeartbeats 4000000 in
set_option maxRecDepth 100000 in
theorem c_Ledger_keep (l : Launch) (D : va_G) (A : Nat → Prop) (ad : Nat → Nat) (cA : Nat → ClassId) (tb0 tb1 : Nat) (a1 : Int32) (st : CwS) (st' : CwS) (h : j_Ledger_keep a1 st = some st') : Met l yX3_keep (wv yX3_keep cX3_keep 2 (none)) ({ frames := 1, cells := 0, slots := 0, locals := 40 }) (va_Pc [.ref (ad 148), .int a1] (cwU D A ad cA tb0 tb1 st)) (cwQv D A ad cA tb0 tb1 st') 0 0 A := by
  refine Met.ofW (cc := cX3_keep) (maxL := 2) (ret := none) (by decide) rfl ?_
  intro p e s m args below meth c s₁ B hml hv
  obtain ⟨rfl, hP, hK⟩ := hv
  have hx := B.exec
  have hb := B.bytes
  have hr := B.returns
  have hts := atoms_spec (ws := wv yX3_keep cX3_keep 2 (none)) B.pre
  have hown : s.vm.findClass RX3 = some m.cls := findClass_of_methodNamed B.named
  have hlocks := B.notSynchronized
  have hO : cwO D A ad cA s st s.heap [] := ⟨hP, va_S.rf⟩
  have hl := lv_entry ([.ref (ad 148), .int a1]) (n := 2) (Nat.le_of_ble_eq_true rfl)
  rw [lg_entry_eq]
  generalize (lg_sl ([.ref (ad 148), .int a1]) ++ List.replicate (2 - (lg_sl ([.ref (ad 148), .int a1])).length) Slot.unset).toArray = ls at hl ⊢
  have hl : lv_has ls 2 [(0, .ref (ad 148)), (1, .int a1)] := hl
  have _h0 := hO
  have hgw := fun (w : Cond) (h : w ∈ gwW) => hts w (List.mem_cons_of_mem _ h)
  have k9 := hgw _ w_23a053dd
  have k15 := hgw _ w_93fec1d4
  have k25 := hgw _ w_0675cc0a
  have k31 := hgw _ w_f0b03c9d
  have k34 := hgw _ w_ded8991e
  have k37 := hgw _ w_81616191
  have k44 := hgw _ w_e7d42001
  unfold j_Ledger_keep at h
  refine lv_aload_n hx hb dX3_keep_0 rfl (lv_at hl 0 rfl) ?_
  refine gf_Ledger_leaves hx hb hgw iwLedger hown hK hO k9 dX3_keep_1 ?_
  refine lv_iconst (v := 0) hx hb dX3_keep_4 (by decide) ?_
  refine lv_aload_n hx hb dX3_keep_5 rfl (lv_at hl 0 rfl) ?_
  refine gf_Ledger_keptLeaves hx hb hgw iwLedger hown hK hO k31 dX3_keep_6 ?_
  refine lv_iload_n hx hb dX3_keep_9 rfl (lv_at hl 1 rfl) ?_
  obtain ⟨hc1, h⟩ := ck_some h
  refine al_KLo hx hb hK hO hc1 dX3_keep_10 ?_
  refine lv_iconst (v := 0) hx hb dX3_keep_11 (by decide) ?_
  refine lv_bipush (v := 64) hx hb dX3_keep_12 (by decide) ?_
  obtain ⟨hc2, h⟩ := ck_some h
  refine ac_Leaves_KL hx hb (by rw [hml]; exact hl.1.symm) hown k44 (hgw _ w_a648c8f7) (hgw _ w_410d49e2) (hgw _ w_4260ffab) hK hO (ix_lt hc1) hc2 (Nat.le_of_ble_eq_true rfl) (Nat.le_of_ble_eq_true rfl) dX3_keep_14 (fun H locs hO => ?_)
  refine lv_aload_n hx hb dX3_keep_17 rfl (lv_at hl 0 rfl) ?_
  refine gf_Ledger_balances hx hb hgw iwLedger hown hK hO k15 dX3_keep_18 ?_
  refine lv_iconst (v := 0) hx hb dX3_keep_21 (by decide) ?_
  refine lv_aload_n hx hb dX3_keep_22 rfl (lv_at hl 0 rfl) ?_
  refine gf_Ledger_keptBalances hx hb hgw iwLedger hown hK hO k34 dX3_keep_23 ?_
  refine lv_iload_n hx hb dX3_keep_26 rfl (lv_at hl 1 rfl) ?_
  obtain ⟨hc3, h⟩ := ck_some h
  refine al_KBo hx hb hK hO hc3 dX3_keep_27 ?_
  refine lv_iconst (v := 0) hx hb dX3_keep_28 (by decide) ?_
  refine lv_bipush (v := 8) hx hb dX3_keep_29 (by decide) ?_
  obtain ⟨hc4, h⟩ := ck_some h
  refine ac_Bals_KB hx hb (by rw [hml]; exact hl.1.symm) hown k44 (hgw _ w_a648c8f7) (hgw _ w_410d49e2) (hgw _ w_4260ffab) hK hO (ix_lt hc3) hc4 (Nat.le_of_ble_eq_true rfl) (Nat.le_of_ble_eq_true rfl) dX3_keep_31 (fun H locs hO => ?_)
  refine lv_aload_n hx hb dX3_keep_34 rfl (lv_at hl 0 rfl) ?_
  refine gf_Ledger_keptCounts hx hb hgw iwLedger hown hK hO k37 dX3_keep_35 ?_
  refine lv_iload_n hx hb dX3_keep_38 rfl (lv_at hl 1 rfl) ?_
  refine lv_aload_n hx hb dX3_keep_39 rfl (lv_at hl 0 rfl) ?_
  refine gf_Ledger_eventCount hx hb hgw iwLedger hown hK hO k25 dX3_keep_40 ?_
  obtain ⟨hc5, h⟩ := ck_some h
  refine as_KC hx hb hK hO hc5 dX3_keep_43 (fun H locs hO => ?_)
  cases h; exact cw_vret hx hb hr hlocks hO dX3_keep_44
-- Ledger restore
def j_Ledger_restore (a1 : Int32) (st : CwS) : Option CwS :=
  ck (ix a1 10) <|
  ck (cpk ((0 : Int32)) ((0 : Int32)) ((64 : Int32)) 64 64) <|
  ck (ix a1 10) <|
  ck (cpk ((0 : Int32)) ((0 : Int32)) ((8 : Int32)) 8 8) <|
  ck (ix a1 10) <|
  some (sI (cL (cL st 3 a1.toNatClampNeg (((0 : Int32)).toNatClampNeg) 0 0 (((0 : Int32)).toNatClampNeg) (((64 : Int32)).toNatClampNeg)) 4 a1.toNatClampNeg (((0 : Int32)).toNatClampNeg) 1 0 (((0 : Int32)).toNatClampNeg) (((8 : Int32)).toNatClampNeg)) 5 0 0 (gI (cL (cL st 3 a1.toNatClampNeg (((0 : Int32)).toNatClampNeg) 0 0 (((0 : Int32)).toNatClampNeg) (((64 : Int32)).toNatClampNeg)) 4 a1.toNatClampNeg (((0 : Int32)).toNatClampNeg) 1 0 (((0 : Int32)).toNatClampNeg) (((8 : Int32)).toNatClampNeg)) 6 0 a1.toNatClampNeg))
set_option maxHeartbeats 4000000 in
set_option maxRecDepth 100000 in
theorem c_Ledger_restore (l : Launch) (D : va_G) (A : Nat → Prop) (ad : Nat → Nat) (cA : Nat → ClassId) (tb0 tb1 : Nat) (a1 : Int32) (st : CwS) (st' : CwS) (h : j_Ledger_restore a1 st = some st') : Met l yX3_restore (wv yX3_restore cX3_restore 2 (none)) ({ frames := 1, cells := 0, slots := 0, locals := 40 }) (va_Pc [.ref (ad 148), .int a1] (cwU D A ad cA tb0 tb1 st)) (cwQv D A ad cA tb0 tb1 st') 0 0 A := by
  refine Met.ofW (cc := cX3_restore) (maxL := 2) (ret := none) (by decide) rfl ?_
  intro p e s m args below meth c s₁ B hml hv
  obtain ⟨rfl, hP, hK⟩ := hv
  have hx := B.exec
  have hb := B.bytes
  have hr := B.returns
  have hts := atoms_spec (ws := wv yX3_restore cX3_restore 2 (none)) B.pre
  have hown : s.vm.findClass RX3 = some m.cls := findClass_of_methodNamed B.named
  have hlocks := B.notSynchronized
  have hO : cwO D A ad cA s st s.heap [] := ⟨hP, va_S.rf⟩
  have hl := lv_entry ([.ref (ad 148), .int a1]) (n := 2) (Nat.le_of_ble_eq_true rfl)
  rw [lg_entry_eq]
  generalize (lg_sl ([.ref (ad 148), .int a1]) ++ List.replicate (2 - (lg_sl ([.ref (ad 148), .int a1])).length) Slot.unset).toArray = ls at hl ⊢
  have hl : lv_has ls 2 [(0, .ref (ad 148)), (1, .int a1)] := hl
  have _h0 := hO
  have hgw := fun (w : Cond) (h : w ∈ gwW) => hts w (List.mem_cons_of_mem _ h)
  have k9 := hgw _ w_23a053dd
  have k15 := hgw _ w_93fec1d4
  have k25 := hgw _ w_0675cc0a
  have k31 := hgw _ w_f0b03c9d
  have k34 := hgw _ w_ded8991e
  have k37 := hgw _ w_81616191
  have k44 := hgw _ w_e7d42001
  unfold j_Ledger_restore at h
  refine lv_aload_n hx hb dX3_restore_0 rfl (lv_at hl 0 rfl) ?_
  refine gf_Ledger_keptLeaves hx hb hgw iwLedger hown hK hO k31 dX3_restore_1 ?_
  refine lv_iload_n hx hb dX3_restore_4 rfl (lv_at hl 1 rfl) ?_
  obtain ⟨hc1, h⟩ := ck_some h
  refine al_KLo hx hb hK hO hc1 dX3_restore_5 ?_
  refine lv_iconst (v := 0) hx hb dX3_restore_6 (by decide) ?_
  refine lv_aload_n hx hb dX3_restore_7 rfl (lv_at hl 0 rfl) ?_
  refine gf_Ledger_leaves hx hb hgw iwLedger hown hK hO k9 dX3_restore_8 ?_
  refine lv_iconst (v := 0) hx hb dX3_restore_11 (by decide) ?_
  refine lv_bipush (v := 64) hx hb dX3_restore_12 (by decide) ?_
  obtain ⟨hc2, h⟩ := ck_some h
  refine ac_KL_Leaves hx hb (by rw [hml]; exact hl.1.symm) hown k44 (hgw _ w_a648c8f7) (hgw _ w_410d49e2) (hgw _ w_4260ffab) hK hO (ix_lt hc1) hc2 (Nat.le_of_ble_eq_true rfl) (Nat.le_of_ble_eq_true rfl) dX3_restore_14 (fun H locs hO => ?_)
  refine lv_aload_n hx hb dX3_restore_17 rfl (lv_at hl 0 rfl) ?_
  refine gf_Ledger_keptBalances hx hb hgw iwLedger hown hK hO k34 dX3_restore_18 ?_
  refine lv_iload_n hx hb dX3_restore_21 rfl (lv_at hl 1 rfl) ?_
  obtain ⟨hc3, h⟩ := ck_some h
  refine al_KBo hx hb hK hO hc3 dX3_restore_22 ?_
  refine lv_iconst (v := 0) hx hb dX3_restore_23 (by decide) ?_
  refine lv_aload_n hx hb dX3_restore_24 rfl (lv_at hl 0 rfl) ?_
  refine gf_Ledger_balances hx hb hgw iwLedger hown hK hO k15 dX3_restore_25 ?_
  refine lv_iconst (v := 0) hx hb dX3_restore_28 (by decide) ?_
  refine lv_bipush (v := 8) hx hb dX3_restore_29 (by decide) ?_
  obtain ⟨hc4, h⟩ := ck_some h
  refine ac_KB_Bals hx hb (by rw [hml]; exact hl.1.symm) hown k44 (hgw _ w_a648c8f7) (hgw _ w_410d49e2) (hgw _ w_4260ffab) hK hO (ix_lt hc3) hc4 (Nat.le_of_ble_eq_true rfl) (Nat.le_of_ble_eq_true rfl) dX3_restore_31 (fun H locs hO => ?_)
  refine lv_aload_n hx hb dX3_restore_34 rfl (lv_at hl 0 rfl) ?_
  refine lv_aload_n hx hb dX3_restore_35 rfl (lv_at hl 0 rfl) ?_
  refine gf_Ledger_keptCounts hx hb hgw iwLedger hown hK hO k37 dX3_restore_36 ?_
  refine lv_iload_n hx hb dX3_restore_39 rfl (lv_at hl 1 rfl) ?_
  obtain ⟨hc5, h⟩ := ck_some h
  refine al_KC hx hb hK hO hc5 dX3_restore_40 ?_
  refine pf_Ledger_eventCount hx hb hgw iwLedger hown hK hO k25 dX3_restore_41 (fun H locs hO => ?_)
  cases h; exact cw_vret hx hb hr hlocks hO dX3_restore_44
