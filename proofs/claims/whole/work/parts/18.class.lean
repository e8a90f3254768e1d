-- CW step
def j_CW_step (a1 : Int32) (a2 : Int32) (a3 : Int32) (a4 : Int32) (st : CwS) : Option (Int32 × CwS) :=
  bR (j_CW_isBehaviour a1 a2 st) fun r1 st2 =>
  if r1 = ((0 : Int32)) then
    some ((-1 : Int32), st2)
  else
    bR (j_Book_find a1 a2 st2) fun r5 st6 =>
    ck (decide (r5 < 48)) <|
    bR (j_Beh_append r5 a3 a4 st6) fun r9 st10 =>
    if r9 = ((0 : Int32)) then
      some ((-2 : Int32), st10)
    else
      some (gI st10 2 r5 0, st10)
set_option maxHeartbeats 4000000 in
set_option maxRecDepth 100000 in
theorem c_CW_step (l : Launch) (D : va_G) (A : Nat → Prop) (ad : Nat → Nat) (cA : Nat → ClassId) (tb0 tb1 : Nat) (a1 : Int32) (a2 : Int32) (a3 : Int32) (a4 : Int32) (st : CwS) (r : Int32) (st' : CwS) (h : j_CW_step a1 a2 a3 a4 st = some (r, st')) : Met l yX7_step (wv yX7_step cX7_step 6 (some .int)) ({ frames := 2, cells := 0, slots := 0, locals := 41 }) (va_Pc [.ref (ad 0), .int a1, .int a2, .int a3, .int a4] (cwU D A ad cA tb0 tb1 st)) (cwQi D A ad cA tb0 tb1 r st') 0 0 A := by
  refine Met.ofW (cc := cX7_step) (maxL := 6) (ret := some .int) (by decide) rfl ?_
  intro p e s m args below meth c s₁ B hml hv
  obtain ⟨rfl, hP, hK⟩ := hv
  have hx := B.exec
  have hb := B.bytes
  have hr := B.returns
  have hts := atoms_spec (ws := wv yX7_step cX7_step 6 (some .int)) B.pre
  have hown : s.vm.findClass RX7 = some m.cls := findClass_of_methodNamed B.named
  have hlocks := B.notSynchronized
  have hO : cwO D A ad cA s st s.heap [] := ⟨hP, va_S.rf⟩
  have hl := lv_entry ([.ref (ad 0), .int a1, .int a2, .int a3, .int a4]) (n := 6) (Nat.le_of_ble_eq_true rfl)
  rw [lg_entry_eq]
  generalize (lg_sl ([.ref (ad 0), .int a1, .int a2, .int a3, .int a4]) ++ List.replicate (6 - (lg_sl ([.ref (ad 0), .int a1, .int a2, .int a3, .int a4])).length) Slot.unset).toArray = ls at hl ⊢
  have hl : lv_has ls 6 [(0, .ref (ad 0)), (1, .int a1), (2, .int a2), (3, .int a3), (4, .int a4)] := hl
  have _h0 := hO
  have hgw := fun (w : Cond) (h : w ∈ gwW) => hts w (List.mem_cons_of_mem _ h)
  have k10 := hgw _ w_7a3df1ba
  have k45 := hgw _ w_6e1eea5f
  unfold j_CW_step at h
  refine lv_iload_n hx hb dX7_step_0 rfl (lv_at hl 1 rfl) ?_
  refine lv_iload_n hx hb dX7_step_1 rfl (lv_at hl 2 rfl) ?_
  obtain ⟨r1, st2, h3, h⟩ := bR_some h
  refine cw_calli (va_runS (As := [.int a1, .int a2]) (rest := []) ⟨hx, hb, hml, hown, hts⟩ (c_CW_isBehaviour l D A ad cA tb0 tb1 a1 a2 st r1 st2 h3) (va_cwS 2 hts (gw_S w_f22a5178 w_03540a48 w_0fc29077 w_f9d22def) rfl rfl rfl (by decide +kernel) ⟨Nat.le_of_ble_eq_true rfl, Nat.le_of_ble_eq_true rfl⟩) (cw_preS hK hO) rfl rfl hl.1 rfl (lv_room (Nat.le_of_ble_eq_true rfl)) dX7_step_2 ⟨Nat.zero_le _, Nat.zero_le _⟩) hO (fun H locs hO => ?_)
  refine lv_if_ne (tgt := 10) hx hb dX7_step_5 (by decide) (fun c4 => ?_) (fun c4 => ?_)
  · have h := ite_f c4 h
    refine lv_aload_n hx hb dX7_step_10 rfl (lv_at hl 0 rfl) ?_
    refine gf_CW_book hx hb hgw iwCW hown hK hO k10 dX7_step_11 ?_
    refine lv_iload_n hx hb dX7_step_14 rfl (lv_at hl 1 rfl) ?_
    refine lv_iload_n hx hb dX7_step_15 rfl (lv_at hl 2 rfl) ?_
    obtain ⟨r5, st6, h7, h⟩ := bR_some h
    obtain ⟨hc8, h⟩ := ck_some h
    refine cw_callr (va_runV (As := [.int a1, .int a2]) (rest := []) ⟨hx, hb, hml, hown, hts⟩ (c_Book_find l D A ad cA tb0 tb1 a1 a2 st2 r5 st6 h7) (cwV 2 hts (gw_V w_11d46912 w_e1327d62 w_a3354a1d w_df4c496e w_9a4e77f1) rfl rfl rfl (by decide +kernel) ⟨Nat.le_of_ble_eq_true rfl, Nat.le_of_ble_eq_true rfl⟩) (cw_preV (k := 1) (ci := 1) hK hO rfl (by decide) (cc_Book)) rfl rfl hl.1 rfl (lv_room (Nat.le_of_ble_eq_true rfl)) dX7_step_16 ⟨Nat.zero_le _, Nat.zero_le _⟩) hO (fun H locs hO => ?_)
    refine lv_astore (lv' := [(5, .ref (ad (4 + 3 * r5))), (0, .ref (ad 0)), (1, .int a1), (2, .int a2), (3, .int a3), (4, .int a4)]) hx hb dX7_step_19 hl (by decide) rfl (fun ls hl => ?_)
    refine lv_aload hx hb dX7_step_21 (lv_at hl 0 rfl) ?_
    refine lv_iload_n hx hb dX7_step_23 rfl (lv_at hl 4 rfl) ?_
    refine lv_iload hx hb dX7_step_24 (lv_at hl 5 rfl) ?_
    obtain ⟨r9, st10, h11, h⟩ := bR_some h
    refine cw_calli (va_runV (As := [.int a3, .int a4]) (rest := []) ⟨hx, hb, hml, hown, hts⟩ (c_Beh_append l D A ad cA tb0 tb1 r5 (ck_lt hc8) a3 a4 st6 r9 st10 h11) (cwV 2 hts (gw_V w_d483e19d w_42df5868 w_75107e93 w_644e7304 w_5b168648) rfl rfl rfl (by decide +kernel) ⟨Nat.le_of_ble_eq_true rfl, Nat.le_of_ble_eq_true rfl⟩) (cw_preV (k := 4 + 3 * r5) (ci := 0) hK hO rfl (by have := (ck_lt hc8); omega) (cc_Beh (ck_lt hc8))) rfl rfl hl.1 rfl (lv_room (Nat.le_of_ble_eq_true rfl)) dX7_step_26 ⟨Nat.zero_le _, Nat.zero_le _⟩) hO (fun H locs hO => ?_)
    refine lv_if_eq (tgt := 40) hx hb dX7_step_29 (by decide) (fun c12 => ?_) (fun c12 => ?_)
    · have h := ite_t c12 h
      refine lv_bipush (v := -2) hx hb dX7_step_40 (by decide) ?_
      obtain ⟨rfl, rfl⟩ := ret2 h; exact cw_iret hx hb hr hlocks hO dX7_step_42
    · have h := ite_f c12 h
      refine lv_aload hx hb dX7_step_32 (lv_at hl 0 rfl) ?_
      refine gf_Beh_count hx hb hgw iwBeh hown hK hO (ck_lt hc8) k45 dX7_step_34 ?_
      refine lv_goto (tgt := 42) hx hb dX7_step_37 (by decide) ?_
      obtain ⟨rfl, rfl⟩ := ret2 h; exact cw_iret hx hb hr hlocks hO dX7_step_42
  · have h := ite_t c4 h
    refine lv_iconst (v := -1) hx hb dX7_step_8 (by decide) ?_
    obtain ⟨rfl, rfl⟩ := ret2 h; exact cw_iret hx hb hr hlocks hO dX7_step_9
-- CW empty
def j_CW_empty (a1 : Int32) (a2 : Int32) (st : CwS) : Option (Int32 × CwS) :=
  bR (j_CW_isBehaviour a1 a2 st) fun r1 st2 =>
  if r1 = ((0 : Int32)) then
    some ((-1 : Int32), st2)
  else
    bR (j_Book_find a1 a2 st2) fun r5 st6 =>
    ck (decide (r5 < 48)) <|
    some (gI st6 2 r5 0, sI st6 2 r5 0 ((0 : Int32)))
set_option maxHeartbeats 4000000 in
set_option maxRecDepth 100000 in
theorem c_CW_empty (l : Launch) (D : va_G) (A : Nat → Prop) (ad : Nat → Nat) (cA : Nat → ClassId) (tb0 tb1 : Nat) (a1 : Int32) (a2 : Int32) (st : CwS) (r : Int32) (st' : CwS) (h : j_CW_empty a1 a2 st = some (r, st')) : Met l yX7_empty (wv yX7_empty cX7_empty 5 (some .int)) ({ frames := 2, cells := 0, slots := 0, locals := 41 }) (va_Pc [.ref (ad 0), .int a1, .int a2] (cwU D A ad cA tb0 tb1 st)) (cwQi D A ad cA tb0 tb1 r st') 0 0 A := by
  refine Met.ofW (cc := cX7_empty) (maxL := 5) (ret := some .int) (by decide) rfl ?_
  intro p e s m args below meth c s₁ B hml hv
  obtain ⟨rfl, hP, hK⟩ := hv
  have hx := B.exec
  have hb := B.bytes
  have hr := B.returns
  have hts := atoms_spec (ws := wv yX7_empty cX7_empty 5 (some .int)) B.pre
  have hown : s.vm.findClass RX7 = some m.cls := findClass_of_methodNamed B.named
  have hlocks := B.notSynchronized
  have hO : cwO D A ad cA s st s.heap [] := ⟨hP, va_S.rf⟩
  have hl := lv_entry ([.ref (ad 0), .int a1, .int a2]) (n := 5) (Nat.le_of_ble_eq_true rfl)
  rw [lg_entry_eq]
  generalize (lg_sl ([.ref (ad 0), .int a1, .int a2]) ++ List.replicate (5 - (lg_sl ([.ref (ad 0), .int a1, .int a2])).length) Slot.unset).toArray = ls at hl ⊢
  have hl : lv_has ls 5 [(0, .ref (ad 0)), (1, .int a1), (2, .int a2)] := hl
  have _h0 := hO
  have hgw := fun (w : Cond) (h : w ∈ gwW) => hts w (List.mem_cons_of_mem _ h)
  have k10 := hgw _ w_7a3df1ba
  have k45 := hgw _ w_6e1eea5f
  unfold j_CW_empty at h
  refine lv_iload_n hx hb dX7_empty_0 rfl (lv_at hl 1 rfl) ?_
  refine lv_iload_n hx hb dX7_empty_1 rfl (lv_at hl 2 rfl) ?_
  obtain ⟨r1, st2, h3, h⟩ := bR_some h
  refine cw_calli (va_runS (As := [.int a1, .int a2]) (rest := []) ⟨hx, hb, hml, hown, hts⟩ (c_CW_isBehaviour l D A ad cA tb0 tb1 a1 a2 st r1 st2 h3) (va_cwS 2 hts (gw_S w_f22a5178 w_03540a48 w_0fc29077 w_f9d22def) rfl rfl rfl (by decide +kernel) ⟨Nat.le_of_ble_eq_true rfl, Nat.le_of_ble_eq_true rfl⟩) (cw_preS hK hO) rfl rfl hl.1 rfl (lv_room (Nat.le_of_ble_eq_true rfl)) dX7_empty_2 ⟨Nat.zero_le _, Nat.zero_le _⟩) hO (fun H locs hO => ?_)
  refine lv_if_ne (tgt := 10) hx hb dX7_empty_5 (by decide) (fun c4 => ?_) (fun c4 => ?_)
  · have h := ite_f c4 h
    refine lv_aload_n hx hb dX7_empty_10 rfl (lv_at hl 0 rfl) ?_
    refine gf_CW_book hx hb hgw iwCW hown hK hO k10 dX7_empty_11 ?_
    refine lv_iload_n hx hb dX7_empty_14 rfl (lv_at hl 1 rfl) ?_
    refine lv_iload_n hx hb dX7_empty_15 rfl (lv_at hl 2 rfl) ?_
    obtain ⟨r5, st6, h7, h⟩ := bR_some h
    obtain ⟨hc8, h⟩ := ck_some h
    refine cw_callr (va_runV (As := [.int a1, .int a2]) (rest := []) ⟨hx, hb, hml, hown, hts⟩ (c_Book_find l D A ad cA tb0 tb1 a1 a2 st2 r5 st6 h7) (cwV 2 hts (gw_V w_11d46912 w_e1327d62 w_a3354a1d w_df4c496e w_9a4e77f1) rfl rfl rfl (by decide +kernel) ⟨Nat.le_of_ble_eq_true rfl, Nat.le_of_ble_eq_true rfl⟩) (cw_preV (k := 1) (ci := 1) hK hO rfl (by decide) (cc_Book)) rfl rfl hl.1 rfl (lv_room (Nat.le_of_ble_eq_true rfl)) dX7_empty_16 ⟨Nat.zero_le _, Nat.zero_le _⟩) hO (fun H locs hO => ?_)
    refine lv_astore_n (lv' := [(3, .ref (ad (4 + 3 * r5))), (0, .ref (ad 0)), (1, .int a1), (2, .int a2)]) hx hb dX7_empty_19 rfl hl (by decide) rfl (fun ls hl => ?_)
    refine lv_aload_n hx hb dX7_empty_20 rfl (lv_at hl 0 rfl) ?_
    refine gf_Beh_count hx hb hgw iwBeh hown hK hO (ck_lt hc8) k45 dX7_empty_21 ?_
    refine lv_istore (lv' := [(4, .int (gI st6 2 r5 0)), (3, .ref (ad (4 + 3 * r5))), (0, .ref (ad 0)), (1, .int a1), (2, .int a2)]) hx hb dX7_empty_24 hl (by decide) rfl (fun ls hl => ?_)
    refine lv_aload_n hx hb dX7_empty_26 rfl (lv_at hl 1 rfl) ?_
    refine lv_iconst (v := 0) hx hb dX7_empty_27 (by decide) ?_
    refine pf_Beh_count hx hb hgw iwBeh hown hK hO (ck_lt hc8) k45 dX7_empty_28 (fun H locs hO => ?_)
    refine lv_iload hx hb dX7_empty_31 (lv_at hl 0 rfl) ?_
    obtain ⟨rfl, rfl⟩ := ret2 h; exact cw_iret hx hb hr hlocks hO dX7_empty_33
  · have h := ite_t c4 h
    refine lv_iconst (v := -1) hx hb dX7_empty_8 (by decide) ?_
    obtain ⟨rfl, rfl⟩ := ret2 h; exact cw_iret hx hb hr hlocks hO dX7_empty_9
-- CW guard
def j_CW_guard (a1 : Int32) (a2 : Int32) (st : CwS) : Option (Int32 × CwS) :=
  bR (j_CW_isContract a1 st) fun r1 st2 =>
  if r1 = ((0 : Int32)) then
    some ((-1 : Int32), st2)
  else
    ck (ix a1 8) <|
    ck (ix a1 8) <|
    if (gI st2 3 0 a1.toNatClampNeg) = ((0 : Int32)) then
      some ((0 : Int32), sI st2 3 0 a1.toNatClampNeg (vp_nar .boolean a2))
    else
      some ((1 : Int32), sI st2 3 0 a1.toNatClampNeg (vp_nar .boolean a2))
set_option maxHeartbeats 4000000 in
set_option maxRecDepth 100000 in
theorem c_CW_guard (l : Launch) (D : va_G) (A : Nat → Prop) (ad : Nat → Nat) (cA : Nat → ClassId) (tb0 tb1 : Nat) (a1 : Int32) (a2 : Int32) (st : CwS) (r : Int32) (st' : CwS) (h : j_CW_guard a1 a2 st = some (r, st')) : Met l yX7_guard (wv yX7_guard cX7_guard 4 (some .int)) ({ frames := 1, cells := 0, slots := 0, locals := 20 }) (va_Pc [.ref (ad 0), .int a1, .int a2] (cwU D A ad cA tb0 tb1 st)) (cwQi D A ad cA tb0 tb1 r st') 0 0 A := by
  refine Met.ofW (cc := cX7_guard) (maxL := 4) (ret := some .int) (by decide) rfl ?_
  intro p e s m args below meth c s₁ B hml hv
  obtain ⟨rfl, hP, hK⟩ := hv
  have hx := B.exec
  have hb := B.bytes
  have hr := B.returns
  have hts := atoms_spec (ws := wv yX7_guard cX7_guard 4 (some .int)) B.pre
  have hown : s.vm.findClass RX7 = some m.cls := findClass_of_methodNamed B.named
  have hlocks := B.notSynchronized
  have hO : cwO D A ad cA s st s.heap [] := ⟨hP, va_S.rf⟩
  have hl := lv_entry ([.ref (ad 0), .int a1, .int a2]) (n := 4) (Nat.le_of_ble_eq_true rfl)
  rw [lg_entry_eq]
  generalize (lg_sl ([.ref (ad 0), .int a1, .int a2]) ++ List.replicate (4 - (lg_sl ([.ref (ad 0), .int a1, .int a2])).length) Slot.unset).toArray = ls at hl ⊢
  have hl : lv_has ls 4 [(0, .ref (ad 0)), (1, .int a1), (2, .int a2)] := hl
  have _h0 := hO
  have hgw := fun (w : Cond) (h : w ∈ gwW) => hts w (List.mem_cons_of_mem _ h)
  have k10 := hgw _ w_7a3df1ba
  have k53 := hgw _ w_8ba0034c
  unfold j_CW_guard at h
  refine lv_iload_n hx hb dX7_guard_0 rfl (lv_at hl 1 rfl) ?_
  obtain ⟨r1, st2, h3, h⟩ := bR_some h
  refine cw_calli (va_runS (As := [.int a1]) (rest := []) ⟨hx, hb, hml, hown, hts⟩ (c_CW_isContract l D A ad cA tb0 tb1 a1 st r1 st2 h3) (va_cwS 1 hts (gw_S w_375a58ab w_6f490791 w_0fc29077 w_9bb5fda8) rfl rfl rfl (by decide +kernel) ⟨Nat.le_of_ble_eq_true rfl, Nat.le_of_ble_eq_true rfl⟩) (cw_preS hK hO) rfl rfl hl.1 rfl (lv_room (Nat.le_of_ble_eq_true rfl)) dX7_guard_1 ⟨Nat.zero_le _, Nat.zero_le _⟩) hO (fun H locs hO => ?_)
  refine lv_if_ne (tgt := 9) hx hb dX7_guard_4 (by decide) (fun c4 => ?_) (fun c4 => ?_)
  · have h := ite_f c4 h
    refine lv_aload_n hx hb dX7_guard_9 rfl (lv_at hl 0 rfl) ?_
    refine gf_CW_book hx hb hgw iwCW hown hK hO k10 dX7_guard_10 ?_
    refine gf_Book_guarded hx hb hgw iwBook hown hK hO k53 dX7_guard_13 ?_
    refine lv_iload_n hx hb dX7_guard_16 rfl (lv_at hl 1 rfl) ?_
    obtain ⟨hc5, h⟩ := ck_some h
    refine al_Guard hx hb hK hO hc5 dX7_guard_17 ?_
    refine lv_istore_n (lv' := [(3, .int (gI st2 3 0 a1.toNatClampNeg)), (0, .ref (ad 0)), (1, .int a1), (2, .int a2)]) hx hb dX7_guard_18 rfl hl (by decide) rfl (fun ls hl => ?_)
    refine lv_aload_n hx hb dX7_guard_19 rfl (lv_at hl 1 rfl) ?_
    refine gf_CW_book hx hb hgw iwCW hown hK hO k10 dX7_guard_20 ?_
    refine gf_Book_guarded hx hb hgw iwBook hown hK hO k53 dX7_guard_23 ?_
    refine lv_iload_n hx hb dX7_guard_26 rfl (lv_at hl 2 rfl) ?_
    refine lv_iload_n hx hb dX7_guard_27 rfl (lv_at hl 3 rfl) ?_
    obtain ⟨hc6, h⟩ := ck_some h
    refine as_Guard hx hb hK hO hc6 dX7_guard_28 (fun H locs hO => ?_)
    refine lv_iload_n hx hb dX7_guard_29 rfl (lv_at hl 0 rfl) ?_
    refine lv_if_eq (tgt := 37) hx hb dX7_guard_30 (by decide) (fun c7 => ?_) (fun c7 => ?_)
    · have h := ite_t c7 h
      refine lv_iconst (v := 0) hx hb dX7_guard_37 (by decide) ?_
      obtain ⟨rfl, rfl⟩ := ret2 h; exact cw_iret hx hb hr hlocks hO dX7_guard_38
    · have h := ite_f c7 h
      refine lv_iconst (v := 1) hx hb dX7_guard_33 (by decide) ?_
      refine lv_goto (tgt := 38) hx hb dX7_guard_34 (by decide) ?_
      obtain ⟨rfl, rfl⟩ := ret2 h; exact cw_iret hx hb hr hlocks hO dX7_guard_38
  · have h := ite_t c4 h
    refine lv_iconst (v := -1) hx hb dX7_guard_7 (by decide) ?_
    obtain ⟨rfl, rfl⟩ := ret2 h; exact cw_iret hx hb hr hlocks hO dX7_guard_8
-- CW fund
def j_CW_fund (a1 : Int32) (a2 : Int64) (st : CwS) : Option (Int32 × CwS) :=
  bR (j_CW_isContract a1 st) fun r1 st2 =>
  if r1 = ((0 : Int32)) then
    some ((-1 : Int32), st2)
  else
    if ((0 : Int32)) ≤ (lg_cmp a2 ((0 : Int64))) then
      ck (ix a1 8) <|
      some ((1 : Int32), sL st2 1 0 a1.toNatClampNeg a2)
    else
      some ((-1 : Int32), st2)
set_option maxHeartbeats 4000000 in
set_option maxRecDepth 100000 in
theorem c_CW_fund (l : Launch) (D : va_G) (A : Nat → Prop) (ad : Nat → Nat) (cA : Nat → ClassId) (tb0 tb1 : Nat) (a1 : Int32) (a2 : Int64) (st : CwS) (r : Int32) (st' : CwS) (h : j_CW_fund a1 a2 st = some (r, st')) : Met l yX7_fund (wv yX7_fund cX7_fund 4 (some .int)) ({ frames := 1, cells := 0, slots := 0, locals := 20 }) (va_Pc [.ref (ad 0), .int a1, .long a2] (cwU D A ad cA tb0 tb1 st)) (cwQi D A ad cA tb0 tb1 r st') 0 0 A := by
  refine Met.ofW (cc := cX7_fund) (maxL := 4) (ret := some .int) (by decide) rfl ?_
  intro p e s m args below meth c s₁ B hml hv
  obtain ⟨rfl, hP, hK⟩ := hv
  have hx := B.exec
  have hb := B.bytes
  have hr := B.returns
  have hts := atoms_spec (ws := wv yX7_fund cX7_fund 4 (some .int)) B.pre
  have hown : s.vm.findClass RX7 = some m.cls := findClass_of_methodNamed B.named
  have hlocks := B.notSynchronized
  have hO : cwO D A ad cA s st s.heap [] := ⟨hP, va_S.rf⟩
  have hl := lv_entry ([.ref (ad 0), .int a1, .long a2]) (n := 4) (Nat.le_of_ble_eq_true rfl)
  rw [lg_entry_eq]
  generalize (lg_sl ([.ref (ad 0), .int a1, .long a2]) ++ List.replicate (4 - (lg_sl ([.ref (ad 0), .int a1, .long a2])).length) Slot.unset).toArray = ls at hl ⊢
  have hl : lv_has ls 4 [(0, .ref (ad 0)), (1, .int a1), (2, .long a2)] := hl
  have _h0 := hO
  have hgw := fun (w : Cond) (h : w ∈ gwW) => hts w (List.mem_cons_of_mem _ h)
  have k19 := hgw _ w_3dcf37e4
  have k57 := hgw _ w_25b74935
  unfold j_CW_fund at h
  refine lv_iload_n hx hb dX7_fund_0 rfl (lv_at hl 1 rfl) ?_
  obtain ⟨r1, st2, h3, h⟩ := bR_some h
  refine cw_calli (va_runS (As := [.int a1]) (rest := []) ⟨hx, hb, hml, hown, hts⟩ (c_CW_isContract l D A ad cA tb0 tb1 a1 st r1 st2 h3) (va_cwS 1 hts (gw_S w_375a58ab w_6f490791 w_0fc29077 w_9bb5fda8) rfl rfl rfl (by decide +kernel) ⟨Nat.le_of_ble_eq_true rfl, Nat.le_of_ble_eq_true rfl⟩) (cw_preS hK hO) rfl rfl hl.1 rfl (lv_room (Nat.le_of_ble_eq_true rfl)) dX7_fund_1 ⟨Nat.zero_le _, Nat.zero_le _⟩) hO (fun H locs hO => ?_)
  refine lv_if_eq (tgt := 13) hx hb dX7_fund_4 (by decide) (fun c4 => ?_) (fun c4 => ?_)
  · have h := ite_t c4 h
    refine lv_iconst (v := -1) hx hb dX7_fund_13 (by decide) ?_
    obtain ⟨rfl, rfl⟩ := ret2 h; exact cw_iret hx hb hr hlocks hO dX7_fund_14
  · have h := ite_f c4 h
    refine lv_lload_n hx hb dX7_fund_7 rfl (lv_at hl 2 rfl) ?_
    refine lv_lconst (v := 0) hx hb dX7_fund_8 (by decide) ?_
    refine W.lcmp hx hb dX7_fund_9 ?_
    refine lv_if_ge (tgt := 15) hx hb dX7_fund_10 (by decide) (fun c5 => ?_) (fun c5 => ?_)
    · have h := ite_t c5 h
      refine lv_aload_n hx hb dX7_fund_15 rfl (lv_at hl 0 rfl) ?_
      refine gf_CW_ledger hx hb hgw iwCW hown hK hO k19 dX7_fund_16 ?_
      refine gf_Ledger_balances hx hb hgw iwLedger hown hK hO k57 dX7_fund_19 ?_
      refine lv_iload_n hx hb dX7_fund_22 rfl (lv_at hl 1 rfl) ?_
      refine lv_lload_n hx hb dX7_fund_23 rfl (lv_at hl 2 rfl) ?_
      obtain ⟨hc6, h⟩ := ck_some h
      refine as_Bals hx hb hK hO hc6 dX7_fund_24 (fun H locs hO => ?_)
      refine lv_iconst (v := 1) hx hb dX7_fund_25 (by decide) ?_
      obtain ⟨rfl, rfl⟩ := ret2 h; exact cw_iret hx hb hr hlocks hO dX7_fund_26
    · have h := ite_f c5 h
      refine lv_iconst (v := -1) hx hb dX7_fund_13 (by decide) ?_
      obtain ⟨rfl, rfl⟩ := ret2 h; exact cw_iret hx hb hr hlocks hO dX7_fund_14
-- CW run
def j_CW_run (a1 : Int32) (a2 : Int32) (a3 : Int64) (a5 : Int32) (st : CwS) : Option (Int32 × CwS) :=
  bR (j_CW_isBehaviour a1 a2 st) fun r1 st2 =>
  if r1 = ((0 : Int32)) then
    some ((-1 : Int32), st2)
  else
    if a5 < ((0 : Int32)) then
      some ((-1 : Int32), st2)
    else
      if a5 ≤ ((600 : Int32)) then
        bR (j_Walk_go a1 a2 a3 a5 st2) fun r7 st8 =>
        some (r7, st8)
      else
        some ((-1 : Int32), st2)
set_option maxHeartbeats 4000000 in
set_option maxRecDepth 100000 in
theorem c_CW_run (l : Launch) (D : va_G) (A : Nat → Prop) (ad : Nat → Nat) (cA : Nat → ClassId) (tb0 tb1 : Nat) (a1 : Int32) (a2 : Int32) (a3 : Int64) (a5 : Int32) (st : CwS) (r : Int32) (st' : CwS) (h : j_CW_run a1 a2 a3 a5 st = some (r, st')) : Met l yX7_run (wv yX7_run cX7_run 6 (some .int)) ({ frames := 7, cells := 0, slots := 0, locals := 192 }) (va_Pc [.ref (ad 0), .int a1, .int a2, .long a3, .int a5] (cwU D A ad cA tb0 tb1 st)) (cwQi D A ad cA tb0 tb1 r st') 0 0 A := by
  refine Met.ofW (cc := cX7_run) (maxL := 6) (ret := some .int) (by decide) rfl ?_
  intro p e s m args below meth c s₁ B hml hv
  obtain ⟨rfl, hP, hK⟩ := hv
  have hx := B.exec
  have hb := B.bytes
  have hr := B.returns
  have hts := atoms_spec (ws := wv yX7_run cX7_run 6 (some .int)) B.pre
  have hown : s.vm.findClass RX7 = some m.cls := findClass_of_methodNamed B.named
  have hlocks := B.notSynchronized
  have hO : cwO D A ad cA s st s.heap [] := ⟨hP, va_S.rf⟩
  have hl := lv_entry ([.ref (ad 0), .int a1, .int a2, .long a3, .int a5]) (n := 6) (Nat.le_of_ble_eq_true rfl)
  rw [lg_entry_eq]
  generalize (lg_sl ([.ref (ad 0), .int a1, .int a2, .long a3, .int a5]) ++ List.replicate (6 - (lg_sl ([.ref (ad 0), .int a1, .int a2, .long a3, .int a5])).length) Slot.unset).toArray = ls at hl ⊢
  have hl : lv_has ls 6 [(0, .ref (ad 0)), (1, .int a1), (2, .int a2), (3, .long a3), (5, .int a5)] := hl
  have _h0 := hO
  have hgw := fun (w : Cond) (h : w ∈ gwW) => hts w (List.mem_cons_of_mem _ h)
  have k28 := hgw _ w_65f0a2e2
  unfold j_CW_run at h
  refine lv_iload_n hx hb dX7_run_0 rfl (lv_at hl 1 rfl) ?_
  refine lv_iload_n hx hb dX7_run_1 rfl (lv_at hl 2 rfl) ?_
  obtain ⟨r1, st2, h3, h⟩ := bR_some h
  refine cw_calli (va_runS (As := [.int a1, .int a2]) (rest := []) ⟨hx, hb, hml, hown, hts⟩ (c_CW_isBehaviour l D A ad cA tb0 tb1 a1 a2 st r1 st2 h3) (va_cwS 2 hts (gw_S w_f22a5178 w_03540a48 w_0fc29077 w_f9d22def) rfl rfl rfl (by decide +kernel) ⟨Nat.le_of_ble_eq_true rfl, Nat.le_of_ble_eq_true rfl⟩) (cw_preS hK hO) rfl rfl hl.1 rfl (lv_room (Nat.le_of_ble_eq_true rfl)) dX7_run_2 ⟨Nat.zero_le _, Nat.zero_le _⟩) hO (fun H locs hO => ?_)
  refine lv_if_eq (tgt := 21) hx hb dX7_run_5 (by decide) (fun c4 => ?_) (fun c4 => ?_)
  · have h := ite_t c4 h
    refine lv_iconst (v := -1) hx hb dX7_run_21 (by decide) ?_
    obtain ⟨rfl, rfl⟩ := ret2 h; exact cw_iret hx hb hr hlocks hO dX7_run_22
  · have h := ite_f c4 h
    refine lv_iload hx hb dX7_run_8 (lv_at hl 4 rfl) ?_
    refine lv_if_lt (tgt := 21) hx hb dX7_run_10 (by decide) (fun c5 => ?_) (fun c5 => ?_)
    · have h := ite_t c5 h
      refine lv_iconst (v := -1) hx hb dX7_run_21 (by decide) ?_
      obtain ⟨rfl, rfl⟩ := ret2 h; exact cw_iret hx hb hr hlocks hO dX7_run_22
    · have h := ite_f c5 h
      refine lv_iload hx hb dX7_run_13 (lv_at hl 4 rfl) ?_
      refine lv_sipush (v := 600) hx hb dX7_run_15 (by decide) ?_
      refine lv_icmp_le (tgt := 23) hx hb dX7_run_18 (by decide) (fun c6 => ?_) (fun c6 => ?_)
      · have h := ite_t c6 h
        refine lv_aload_n hx hb dX7_run_23 rfl (lv_at hl 0 rfl) ?_
        refine gf_CW_walk hx hb hgw iwCW hown hK hO k28 dX7_run_24 ?_
        refine lv_iload_n hx hb dX7_run_27 rfl (lv_at hl 1 rfl) ?_
        refine lv_iload_n hx hb dX7_run_28 rfl (lv_at hl 2 rfl) ?_
        refine lv_lload_n hx hb dX7_run_29 rfl (lv_at hl 3 rfl) ?_
        refine lv_iload hx hb dX7_run_30 (lv_at hl 4 rfl) ?_
        obtain ⟨r7, st8, h9, h⟩ := bR_some h
        refine cw_calli (va_runV (As := [.int a1, .int a2, .long a3, .int a5]) (rest := []) ⟨hx, hb, hml, hown, hts⟩ (c_Walk_go l D A ad cA tb0 tb1 a1 a2 a3 a5 st2 r7 st8 h9) (cwV 4 hts (gw_V w_67a65630 w_ec92cf84 w_3b85379b w_f8f5642f w_f5f12c32) rfl rfl rfl (by decide +kernel) ⟨Nat.le_of_ble_eq_true rfl, Nat.le_of_ble_eq_true rfl⟩) (cw_preV (k := 176) (ci := 6) hK hO rfl (by decide) (cc_Walk)) rfl rfl hl.1 rfl (lv_room (Nat.le_of_ble_eq_true rfl)) dX7_run_32 ⟨Nat.zero_le _, Nat.zero_le _⟩) hO (fun H locs hO => ?_)
        obtain ⟨rfl, rfl⟩ := ret2 h; exact cw_iret hx hb hr hlocks hO dX7_run_35
      · have h := ite_f c6 h
        refine lv_iconst (v := -1) hx hb dX7_run_21 (by decide) ?_
        obtain ⟨rfl, rfl⟩ := ret2 h; exact cw_iret hx hb hr hlocks hO dX7_run_22
-- CW given
def j_CW_given (st : CwS) : Option (Int64 × CwS) :=
  some (gL st 5 0 0, st)
set_option maxHeartbeats 4000000 in
set_option maxRecDepth 100000 in
theorem c_CW_given (l : Launch) (D : va_G) (A : Nat → Prop) (ad : Nat → Nat) (cA : Nat → ClassId) (tb0 tb1 : Nat) (st : CwS) (r : Int64) (st' : CwS) (h : j_CW_given st = some (r, st')) : Met l yX7_given (wv yX7_given cX7_given 1 (some .long)) ({ frames := 0, cells := 0, slots := 0, locals := 0 }) (va_Pc [.ref (ad 0)] (cwU D A ad cA tb0 tb1 st)) (cwQl D A ad cA tb0 tb1 r st') 0 0 A := by
  refine Met.ofW (cc := cX7_given) (maxL := 1) (ret := some .long) (by decide) rfl ?_
  intro p e s m args below meth c s₁ B hml hv
  obtain ⟨rfl, hP, hK⟩ := hv
  have hx := B.exec
  have hb := B.bytes
  have hr := B.returns
  have hts := atoms_spec (ws := wv yX7_given cX7_given 1 (some .long)) B.pre
  have hown : s.vm.findClass RX7 = some m.cls := findClass_of_methodNamed B.named
  have hlocks := B.notSynchronized
  have hO : cwO D A ad cA s st s.heap [] := ⟨hP, va_S.rf⟩
  have hl := lv_entry ([.ref (ad 0)]) (n := 1) (Nat.le_of_ble_eq_true rfl)
  rw [lg_entry_eq]
  generalize (lg_sl ([.ref (ad 0)]) ++ List.replicate (1 - (lg_sl ([.ref (ad 0)])).length) Slot.unset).toArray = ls at hl ⊢
  have hl : lv_has ls 1 [(0, .ref (ad 0))] := hl
  have _h0 := hO
  have hgw := fun (w : Cond) (h : w ∈ gwW) => hts w (List.mem_cons_of_mem _ h)
  have k28 := hgw _ w_65f0a2e2
  have k65 := hgw _ w_75276dbb
  unfold j_CW_given at h
  refine lv_aload_n hx hb dX7_given_0 rfl (lv_at hl 0 rfl) ?_
  refine gf_CW_walk hx hb hgw iwCW hown hK hO k28 dX7_given_1 ?_
  refine gf_Walk_result hx hb hgw iwWalk hown hK hO k65 dX7_given_4 ?_
  obtain ⟨rfl, rfl⟩ := ret2 h; exact cw_lret hx hb hr hlocks hO dX7_given_7
-- CW told
def j_CW_told (a1 : Int32) (st : CwS) : Option (Int32 × CwS) :=
  if a1 < ((0 : Int32)) then
    some ((-1 : Int32), st)
  else
    if ((5 : Int32)) ≤ a1 then
      some ((-1 : Int32), st)
    else
      ck (ix a1 5) <|
      some (gI st 7 0 a1.toNatClampNeg, st)
set_option maxHeartbeats 4000000 in
set_option maxRecDepth 100000 in
theorem c_CW_told (l : Launch) (D : va_G) (A : Nat → Prop) (ad : Nat → Nat) (cA : Nat → ClassId) (tb0 tb1 : Nat) (a1 : Int32) (st : CwS) (r : Int32) (st' : CwS) (h : j_CW_told a1 st = some (r, st')) : Met l yX7_told (wv yX7_told cX7_told 2 (some .int)) ({ frames := 0, cells := 0, slots := 0, locals := 0 }) (va_Pc [.ref (ad 0), .int a1] (cwU D A ad cA tb0 tb1 st)) (cwQi D A ad cA tb0 tb1 r st') 0 0 A := by
  refine Met.ofW (cc := cX7_told) (maxL := 2) (ret := some .int) (by decide) rfl ?_
  intro p e s m args below meth c s₁ B hml hv
  obtain ⟨rfl, hP, hK⟩ := hv
  have hx := B.exec
  have hb := B.bytes
  have hr := B.returns
  have hts := atoms_spec (ws := wv yX7_told cX7_told 2 (some .int)) B.pre
  have hown : s.vm.findClass RX7 = some m.cls := findClass_of_methodNamed B.named
  have hlocks := B.notSynchronized
  have hO : cwO D A ad cA s st s.heap [] := ⟨hP, va_S.rf⟩
  have hl := lv_entry ([.ref (ad 0), .int a1]) (n := 2) (Nat.le_of_ble_eq_true rfl)
  rw [lg_entry_eq]
  generalize (lg_sl ([.ref (ad 0), .int a1]) ++ List.replicate (2 - (lg_sl ([.ref (ad 0), .int a1])).length) Slot.unset).toArray = ls at hl ⊢
  have hl : lv_has ls 2 [(0, .ref (ad 0)), (1, .int a1)] := hl
  have _h0 := hO
  have hgw := fun (w : Cond) (h : w ∈ gwW) => hts w (List.mem_cons_of_mem _ h)
  have k28 := hgw _ w_65f0a2e2
  have k69 := hgw _ w_c113431e
  unfold j_CW_told at h
  refine lv_iload_n hx hb dX7_told_0 rfl (lv_at hl 1 rfl) ?_
  refine lv_if_lt (tgt := 21) hx hb dX7_told_1 (by decide) (fun c1 => ?_) (fun c1 => ?_)
  · have h := ite_t c1 h
    refine lv_iconst (v := -1) hx hb dX7_told_21 (by decide) ?_
    obtain ⟨rfl, rfl⟩ := ret2 h; exact cw_iret hx hb hr hlocks hO dX7_told_22
  · have h := ite_f c1 h
    refine lv_iload_n hx hb dX7_told_4 rfl (lv_at hl 1 rfl) ?_
    refine lv_iconst (v := 5) hx hb dX7_told_5 (by decide) ?_
    refine lv_icmp_ge (tgt := 21) hx hb dX7_told_6 (by decide) (fun c2 => ?_) (fun c2 => ?_)
    · have h := ite_t c2 h
      refine lv_iconst (v := -1) hx hb dX7_told_21 (by decide) ?_
      obtain ⟨rfl, rfl⟩ := ret2 h; exact cw_iret hx hb hr hlocks hO dX7_told_22
    · have h := ite_f c2 h
      refine lv_aload_n hx hb dX7_told_9 rfl (lv_at hl 0 rfl) ?_
      refine gf_CW_walk hx hb hgw iwCW hown hK hO k28 dX7_told_10 ?_
      refine gf_Walk_counts hx hb hgw iwWalk hown hK hO k69 dX7_told_13 ?_
      refine lv_iload_n hx hb dX7_told_16 rfl (lv_at hl 1 rfl) ?_
      obtain ⟨hc3, h⟩ := ck_some h
      refine al_Counts hx hb hK hO hc3 dX7_told_17 ?_
      refine lv_goto (tgt := 22) hx hb dX7_told_18 (by decide) ?_
      obtain ⟨rfl, rfl⟩ := ret2 h; exact cw_iret hx hb hr hlocks hO dX7_told_22
-- CW leaf
def j_CW_leaf (a1 : Int32) (a2 : Int32) (st : CwS) : Option (Int64 × CwS) :=
  bR (j_CW_isContract a1 st) fun r1 st2 =>
  if r1 = ((0 : Int32)) then
    some ((0 : Int64), st2)
  else
    bR (j_CW_isLeaf a2 st2) fun r5 st6 =>
    if r5 = ((0 : Int32)) then
      some ((0 : Int64), st6)
    else
      ck (ix ((a1 * ((8 : Int32))) + a2) 64) <|
      some (gL st6 0 0 (((a1 * ((8 : Int32))) + a2).toNatClampNeg), st6)
set_option maxHeartbeats 4000000 in
set_option maxRecDepth 100000 in
theorem c_CW_leaf (l : Launch) (D : va_G) (A : Nat → Prop) (ad : Nat → Nat) (cA : Nat → ClassId) (tb0 tb1 : Nat) (a1 : Int32) (a2 : Int32) (st : CwS) (r : Int64) (st' : CwS) (h : j_CW_leaf a1 a2 st = some (r, st')) : Met l yX7_leaf (wv yX7_leaf cX7_leaf 3 (some .long)) ({ frames := 1, cells := 0, slots := 0, locals := 20 }) (va_Pc [.ref (ad 0), .int a1, .int a2] (cwU D A ad cA tb0 tb1 st)) (cwQl D A ad cA tb0 tb1 r st') 0 0 A := by
  refine Met.ofW (cc := cX7_leaf) (maxL := 3) (ret := some .long) (by decide) rfl ?_
  intro p e s m args below meth c s₁ B hml hv
  obtain ⟨rfl, hP, hK⟩ := hv
  have hx := B.exec
  have hb := B.bytes
  have hr := B.returns
  have hts := atoms_spec (ws := wv yX7_leaf cX7_leaf 3 (some .long)) B.pre
  have hown : s.vm.findClass RX7 = some m.cls := findClass_of_methodNamed B.named
  have hlocks := B.notSynchronized
  have hO : cwO D A ad cA s st s.heap [] := ⟨hP, va_S.rf⟩
  have hl := lv_entry ([.ref (ad 0), .int a1, .int a2]) (n := 3) (Nat.le_of_ble_eq_true rfl)
  rw [lg_entry_eq]
  generalize (lg_sl ([.ref (ad 0), .int a1, .int a2]) ++ List.replicate (3 - (lg_sl ([.ref (ad 0), .int a1, .int a2])).length) Slot.unset).toArray = ls at hl ⊢
  have hl : lv_has ls 3 [(0, .ref (ad 0)), (1, .int a1), (2, .int a2)] := hl
  have _h0 := hO
  have hgw := fun (w : Cond) (h : w ∈ gwW) => hts w (List.mem_cons_of_mem _ h)
  have k19 := hgw _ w_3dcf37e4
  have k76 := hgw _ w_bd66277f
  unfold j_CW_leaf at h
  refine lv_iload_n hx hb dX7_leaf_0 rfl (lv_at hl 1 rfl) ?_
  obtain ⟨r1, st2, h3, h⟩ := bR_some h
  refine cw_calli (va_runS (As := [.int a1]) (rest := []) ⟨hx, hb, hml, hown, hts⟩ (c_CW_isContract l D A ad cA tb0 tb1 a1 st r1 st2 h3) (va_cwS 1 hts (gw_S w_375a58ab w_6f490791 w_0fc29077 w_9bb5fda8) rfl rfl rfl (by decide +kernel) ⟨Nat.le_of_ble_eq_true rfl, Nat.le_of_ble_eq_true rfl⟩) (cw_preS hK hO) rfl rfl hl.1 rfl (lv_room (Nat.le_of_ble_eq_true rfl)) dX7_leaf_1 ⟨Nat.zero_le _, Nat.zero_le _⟩) hO (fun H locs hO => ?_)
  refine lv_if_eq (tgt := 31) hx hb dX7_leaf_4 (by decide) (fun c4 => ?_) (fun c4 => ?_)
  · have h := ite_t c4 h
    refine lv_lconst (v := 0) hx hb dX7_leaf_31 (by decide) ?_
    obtain ⟨rfl, rfl⟩ := ret2 h; exact cw_lret hx hb hr hlocks hO dX7_leaf_32
  · have h := ite_f c4 h
    refine lv_iload_n hx hb dX7_leaf_7 rfl (lv_at hl 2 rfl) ?_
    obtain ⟨r5, st6, h7, h⟩ := bR_some h
    refine cw_calli (va_runS (As := [.int a2]) (rest := []) ⟨hx, hb, hml, hown, hts⟩ (c_CW_isLeaf l D A ad cA tb0 tb1 a2 st2 r5 st6 h7) (va_cwS 1 hts (gw_S w_8d25cbe0 w_45a6a7ae w_0fc29077 w_778875df) rfl rfl rfl (by decide +kernel) ⟨Nat.le_of_ble_eq_true rfl, Nat.le_of_ble_eq_true rfl⟩) (cw_preS hK hO) rfl rfl hl.1 rfl (lv_room (Nat.le_of_ble_eq_true rfl)) dX7_leaf_8 ⟨Nat.zero_le _, Nat.zero_le _⟩) hO (fun H locs hO => ?_)
    refine lv_if_eq (tgt := 31) hx hb dX7_leaf_11 (by decide) (fun c8 => ?_) (fun c8 => ?_)
    · have h := ite_t c8 h
      refine lv_lconst (v := 0) hx hb dX7_leaf_31 (by decide) ?_
      obtain ⟨rfl, rfl⟩ := ret2 h; exact cw_lret hx hb hr hlocks hO dX7_leaf_32
    · have h := ite_f c8 h
      refine lv_aload_n hx hb dX7_leaf_14 rfl (lv_at hl 0 rfl) ?_
      refine gf_CW_ledger hx hb hgw iwCW hown hK hO k19 dX7_leaf_15 ?_
      refine gf_Ledger_leaves hx hb hgw iwLedger hown hK hO k76 dX7_leaf_18 ?_
      refine lv_iload_n hx hb dX7_leaf_21 rfl (lv_at hl 1 rfl) ?_
      refine lv_bipush (v := 8) hx hb dX7_leaf_22 (by decide) ?_
      refine lv_imul hx hb dX7_leaf_24 ?_
      refine lv_iload_n hx hb dX7_leaf_25 rfl (lv_at hl 2 rfl) ?_
      refine lv_iadd hx hb dX7_leaf_26 ?_
      obtain ⟨hc9, h⟩ := ck_some h
      refine al_Leaves hx hb hK hO hc9 dX7_leaf_27 ?_
      refine lv_goto (tgt := 32) hx hb dX7_leaf_28 (by decide) ?_
      obtain ⟨rfl, rfl⟩ := ret2 h; exact cw_lret hx hb hr hlocks hO dX7_leaf_32
-- CW balance
def j_CW_balance (a1 : Int32) (st : CwS) : Option (Int64 × CwS) :=
  bR (j_CW_isContract a1 st) fun r1 st2 =>
  if r1 = ((0 : Int32)) then
    some ((0 : Int64), st2)
  else
    ck (ix a1 8) <|
    some (gL st2 1 0 a1.toNatClampNeg, st2)
set_option maxHeartbeats 4000000 in
set_option maxRecDepth 100000 in
theorem c_CW_balance (l : Launch) (D : va_G) (A : Nat → Prop) (ad : Nat → Nat) (cA : Nat → ClassId) (tb0 tb1 : Nat) (a1 : Int32) (st : CwS) (r : Int64) (st' : CwS) (h : j_CW_balance a1 st = some (r, st')) : Met l yX7_balance (wv yX7_balance cX7_balance 2 (some .long)) ({ frames := 1, cells := 0, slots := 0, locals := 20 }) (va_Pc [.ref (ad 0), .int a1] (cwU D A ad cA tb0 tb1 st)) (cwQl D A ad cA tb0 tb1 r st') 0 0 A := by
  refine Met.ofW (cc := cX7_balance) (maxL := 2) (ret := some .long) (by decide) rfl ?_
  intro p e s m args below meth c s₁ B hml hv
  obtain ⟨rfl, hP, hK⟩ := hv
  have hx := B.exec
  have hb := B.bytes
  have hr := B.returns
  have hts := atoms_spec (ws := wv yX7_balance cX7_balance 2 (some .long)) B.pre
  have hown : s.vm.findClass RX7 = some m.cls := findClass_of_methodNamed B.named
  have hlocks := B.notSynchronized
  have hO : cwO D A ad cA s st s.heap [] := ⟨hP, va_S.rf⟩
  have hl := lv_entry ([.ref (ad 0), .int a1]) (n := 2) (Nat.le_of_ble_eq_true rfl)
  rw [lg_entry_eq]
  generalize (lg_sl ([.ref (ad 0), .int a1]) ++ List.replicate (2 - (lg_sl ([.ref (ad 0), .int a1])).length) Slot.unset).toArray = ls at hl ⊢
  have hl : lv_has ls 2 [(0, .ref (ad 0)), (1, .int a1)] := hl
  have _h0 := hO
  have hgw := fun (w : Cond) (h : w ∈ gwW) => hts w (List.mem_cons_of_mem _ h)
  have k19 := hgw _ w_3dcf37e4
  have k57 := hgw _ w_25b74935
  unfold j_CW_balance at h
  refine lv_iload_n hx hb dX7_balance_0 rfl (lv_at hl 1 rfl) ?_
  obtain ⟨r1, st2, h3, h⟩ := bR_some h
  refine cw_calli (va_runS (As := [.int a1]) (rest := []) ⟨hx, hb, hml, hown, hts⟩ (c_CW_isContract l D A ad cA tb0 tb1 a1 st r1 st2 h3) (va_cwS 1 hts (gw_S w_375a58ab w_6f490791 w_0fc29077 w_9bb5fda8) rfl rfl rfl (by decide +kernel) ⟨Nat.le_of_ble_eq_true rfl, Nat.le_of_ble_eq_true rfl⟩) (cw_preS hK hO) rfl rfl hl.1 rfl (lv_room (Nat.le_of_ble_eq_true rfl)) dX7_balance_1 ⟨Nat.zero_le _, Nat.zero_le _⟩) hO (fun H locs hO => ?_)
  refine lv_if_eq (tgt := 19) hx hb dX7_balance_4 (by decide) (fun c4 => ?_) (fun c4 => ?_)
  · have h := ite_t c4 h
    refine lv_lconst (v := 0) hx hb dX7_balance_19 (by decide) ?_
    obtain ⟨rfl, rfl⟩ := ret2 h; exact cw_lret hx hb hr hlocks hO dX7_balance_20
  · have h := ite_f c4 h
    refine lv_aload_n hx hb dX7_balance_7 rfl (lv_at hl 0 rfl) ?_
    refine gf_CW_ledger hx hb hgw iwCW hown hK hO k19 dX7_balance_8 ?_
    refine gf_Ledger_balances hx hb hgw iwLedger hown hK hO k57 dX7_balance_11 ?_
    refine lv_iload_n hx hb dX7_balance_14 rfl (lv_at hl 1 rfl) ?_
    obtain ⟨hc5, h⟩ := ck_some h
    refine al_Bals hx hb hK hO hc5 dX7_balance_15 ?_
    refine lv_goto (tgt := 20) hx hb dX7_balance_16 (by decide) ?_
    obtain ⟨rfl, rfl⟩ := ret2 h; exact cw_lret hx hb hr hlocks hO dX7_balance_20
-- CW events
def j_CW_events (st : CwS) : Option (Int32 × CwS) :=
  some (gI st 5 0 0, st)
set_option maxHeartbeats 4000000 in
set_option maxRecDepth 100000 in
theorem c_CW_events (l : Launch) (D : va_G) (A : Nat → Prop) (ad : Nat → Nat) (cA : Nat → ClassId) (tb0 tb1 : Nat) (st : CwS) (r : Int32) (st' : CwS) (h : j_CW_events st = some (r, st')) : Met l yX7_events (wv yX7_events cX7_events 1 (some .int)) ({ frames := 0, cells := 0, slots := 0, locals := 0 }) (va_Pc [.ref (ad 0)] (cwU D A ad cA tb0 tb1 st)) (cwQi D A ad cA tb0 tb1 r st') 0 0 A := by
  refine Met.ofW (cc := cX7_events) (maxL := 1) (ret := some .int) (by decide) rfl ?_
  intro p e s m args below meth c s₁ B hml hv
  obtain ⟨rfl, hP, hK⟩ := hv
  have hx := B.exec
  have hb := B.bytes
  have hr := B.returns
  have hts := atoms_spec (ws := wv yX7_events cX7_events 1 (some .int)) B.pre
  have hown : s.vm.findClass RX7 = some m.cls := findClass_of_methodNamed B.named
  have hlocks := B.notSynchronized
  have hO : cwO D A ad cA s st s.heap [] := ⟨hP, va_S.rf⟩
  have hl := lv_entry ([.ref (ad 0)]) (n := 1) (Nat.le_of_ble_eq_true rfl)
  rw [lg_entry_eq]
  generalize (lg_sl ([.ref (ad 0)]) ++ List.replicate (1 - (lg_sl ([.ref (ad 0)])).length) Slot.unset).toArray = ls at hl ⊢
  have hl : lv_has ls 1 [(0, .ref (ad 0))] := hl
  have _h0 := hO
  have hgw := fun (w : Cond) (h : w ∈ gwW) => hts w (List.mem_cons_of_mem _ h)
  have k19 := hgw _ w_3dcf37e4
  have k79 := hgw _ w_b67da81a
  unfold j_CW_events at h
  refine lv_aload_n hx hb dX7_events_0 rfl (lv_at hl 0 rfl) ?_
  refine gf_CW_ledger hx hb hgw iwCW hown hK hO k19 dX7_events_1 ?_
  refine gf_Ledger_eventCount hx hb hgw iwLedger hown hK hO k79 dX7_events_4 ?_
  obtain ⟨rfl, rfl⟩ := ret2 h; exact cw_iret hx hb hr hlocks hO dX7_events_7
-- CW event
def j_CW_event (a1 : Int32) (a2 : Int32) (st : CwS) : Option (Int32 × CwS) :=
  bR (j_Ledger_hasEvent a1 st) fun r1 st2 =>
  if r1 = ((0 : Int32)) then
    some ((-1 : Int32), st2)
  else
    if a2 = ((0 : Int32)) then
      ck (ix a1 40) <|
      some (gI st2 4 0 a1.toNatClampNeg, st2)
    else
      some ((-1 : Int32), st2)
set_option maxHeartbeats 4000000 in
set_option maxRecDepth 100000 in
theorem c_CW_event (l : Launch) (D : va_G) (A : Nat → Prop) (ad : Nat → Nat) (cA : Nat → ClassId) (tb0 tb1 : Nat) (a1 : Int32) (a2 : Int32) (st : CwS) (r : Int32) (st' : CwS) (h : j_CW_event a1 a2 st = some (r, st')) : Met l yX7_event (wv yX7_event cX7_event 3 (some .int)) ({ frames := 1, cells := 0, slots := 0, locals := 21 }) (va_Pc [.ref (ad 0), .int a1, .int a2] (cwU D A ad cA tb0 tb1 st)) (cwQi D A ad cA tb0 tb1 r st') 0 0 A := by
  refine Met.ofW (cc := cX7_event) (maxL := 3) (ret := some .int) (by decide) rfl ?_
  intro p e s m args below meth c s₁ B hml hv
  obtain ⟨rfl, hP, hK⟩ := hv
  have hx := B.exec
  have hb := B.bytes
  have hr := B.returns
  have hts := atoms_spec (ws := wv yX7_event cX7_event 3 (some .int)) B.pre
  have hown : s.vm.findClass RX7 = some m.cls := findClass_of_methodNamed B.named
  have hlocks := B.notSynchronized
  have hO : cwO D A ad cA s st s.heap [] := ⟨hP, va_S.rf⟩
  have hl := lv_entry ([.ref (ad 0), .int a1, .int a2]) (n := 3) (Nat.le_of_ble_eq_true rfl)
  rw [lg_entry_eq]
  generalize (lg_sl ([.ref (ad 0), .int a1, .int a2]) ++ List.replicate (3 - (lg_sl ([.ref (ad 0), .int a1, .int a2])).length) Slot.unset).toArray = ls at hl ⊢
  have hl : lv_has ls 3 [(0, .ref (ad 0)), (1, .int a1), (2, .int a2)] := hl
  have _h0 := hO
  have hgw := fun (w : Cond) (h : w ∈ gwW) => hts w (List.mem_cons_of_mem _ h)
  have k19 := hgw _ w_3dcf37e4
  have k85 := hgw _ w_e8d19600
  unfold j_CW_event at h
  refine lv_aload_n hx hb dX7_event_0 rfl (lv_at hl 0 rfl) ?_
  refine gf_CW_ledger hx hb hgw iwCW hown hK hO k19 dX7_event_1 ?_
  refine lv_iload_n hx hb dX7_event_4 rfl (lv_at hl 1 rfl) ?_
  obtain ⟨r1, st2, h3, h⟩ := bR_some h
  refine cw_calli (va_runV (As := [.int a1]) (rest := []) ⟨hx, hb, hml, hown, hts⟩ (c_Ledger_hasEvent l D A ad cA tb0 tb1 a1 st r1 st2 h3) (cwV 1 hts (gw_V w_3c59aded w_21ef8127 w_03a0fe8a w_7f12e8e2 w_e4366073) rfl rfl rfl (by decide +kernel) ⟨Nat.le_of_ble_eq_true rfl, Nat.le_of_ble_eq_true rfl⟩) (cw_preV (k := 148) (ci := 3) hK hO rfl (by decide) (cc_Ledger)) rfl rfl hl.1 rfl (lv_room (Nat.le_of_ble_eq_true rfl)) dX7_event_5 ⟨Nat.zero_le _, Nat.zero_le _⟩) hO (fun H locs hO => ?_)
  refine lv_if_eq (tgt := 27) hx hb dX7_event_8 (by decide) (fun c4 => ?_) (fun c4 => ?_)
  · have h := ite_t c4 h
    refine lv_iconst (v := -1) hx hb dX7_event_27 (by decide) ?_
    obtain ⟨rfl, rfl⟩ := ret2 h; exact cw_iret hx hb hr hlocks hO dX7_event_28
  · have h := ite_f c4 h
    refine lv_iload_n hx hb dX7_event_11 rfl (lv_at hl 2 rfl) ?_
    refine lv_if_ne (tgt := 27) hx hb dX7_event_12 (by decide) (fun c5 => ?_) (fun c5 => ?_)
    · have h := ite_f c5 h
      refine lv_iconst (v := -1) hx hb dX7_event_27 (by decide) ?_
      obtain ⟨rfl, rfl⟩ := ret2 h; exact cw_iret hx hb hr hlocks hO dX7_event_28
    · have h := ite_t c5 h
      refine lv_aload_n hx hb dX7_event_15 rfl (lv_at hl 0 rfl) ?_
      refine gf_CW_ledger hx hb hgw iwCW hown hK hO k19 dX7_event_16 ?_
      refine gf_Ledger_eventContracts hx hb hgw iwLedger hown hK hO k85 dX7_event_19 ?_
      refine lv_iload_n hx hb dX7_event_22 rfl (lv_at hl 1 rfl) ?_
      obtain ⟨hc6, h⟩ := ck_some h
      refine al_EvC hx hb hK hO hc6 dX7_event_23 ?_
      refine lv_goto (tgt := 28) hx hb dX7_event_24 (by decide) ?_
      obtain ⟨rfl, rfl⟩ := ret2 h; exact cw_iret hx hb hr hlocks hO dX7_event_28
