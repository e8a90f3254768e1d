-- Walk op-en
def j_Walk_open (a1 : Nat) (a2 : Int32) (a3 : Int32) (a4 : Int32) (st : CwS) : Option (Nat × CwS) :=
  bV (j_Ledger_keep (gI st 8 0 0) st) fun st2 =>
  ck (ix (gI st2 8 0 0) 10) <|
  ck (ix ((0 : Int32)) 5) <|
  bV (j_Frame_begin ((gI st2 8 0 0).toNatClampNeg) a1 a2 a3 ((gI st2 7 0 (((0 : Int32)).toNatClampNeg)) + a4) st2) fun st7 =>
  ck (ix ((2 : Int32)) 5) <|
  ck (ix ((2 : Int32)) 5) <|
  some ((gI st2 8 0 0).toNatClampNeg, sI (sI st7 8 0 0 ((gI st7 8 0 0) + ((1 : Int32)))) 7 0 (((2 : Int32)).toNatClampNeg) (if (gI (sI st7 8 0 0 ((gI st7 8 0 0) + ((1 : Int32)))) 7 0 (((2 : Int32)).toNatClampNeg)) < (gI (sI st7 8 0 0 ((gI st7 8 0 0) + ((1 : Int32)))) 8 0 0) then (gI (sI st7 8 0 0 ((gI st7 8 0 0) + ((1 : Int32)))) 8 0 0) else (gI (sI st7 8 0 0 ((gI st7 8 0 0) + ((1 : Int32)))) 7 0 (((2 : Int32)).toNatClampNeg))))
set_option maxHeartbeats 4000000 in
set_option maxRecDepth 100000 in
theorem c_Walk_open (l : Launch) (D : va_G) (A : Nat → Prop) (ad : Nat → Nat) (cA : Nat → ClassId) (tb0 tb1 : Nat) (a1 : Nat) (ha1 : a1 < 48) (a2 : Int32) (a3 : Int32) (a4 : Int32) (st : CwS) (r : Nat) (st' : CwS) (h : j_Walk_open a1 a2 a3 a4 st = some (r, st')) : Met l yX6_open (wv yX6_open cX6_open 6 (some (.object "CallWalker$Frame"))) ({ frames := 2, cells := 0, slots := 0, locals := 61 }) (va_Pc [.ref (ad 176), .ref (ad (4 + 3 * a1)), .int a2, .int a3, .int a4] (cwU D A ad cA tb0 tb1 st)) (cwQr D A ad cA tb0 tb1 (179 + 9 * r) st') 0 0 A := by
  refine Met.ofW (cc := cX6_open) (maxL := 6) (ret := some (.object "CallWalker$Frame")) (by decide) rfl ?_
  intro p e s m args below meth c s₁ B hml hv
  obtain ⟨rfl, hP, hK⟩ := hv
  have hx := B.exec
  have hb := B.bytes
  have hr := B.returns
  have hts := atoms_spec (ws := wv yX6_open cX6_open 6 (some (.object "CallWalker$Frame"))) B.pre
  have hown : s.vm.findClass RX6 = some m.cls := findClass_of_methodNamed B.named
  have hlocks := B.notSynchronized
  have hO : cwO D A ad cA s st s.heap [] := ⟨hP, va_S.rf⟩
  have hl := lv_entry ([.ref (ad 176), .ref (ad (4 + 3 * a1)), .int a2, .int a3, .int a4]) (n := 6) (Nat.le_of_ble_eq_true rfl)
  rw [lg_entry_eq]
  generalize (lg_sl ([.ref (ad 176), .ref (ad (4 + 3 * a1)), .int a2, .int a3, .int a4]) ++ List.replicate (6 - (lg_sl ([.ref (ad 176), .ref (ad (4 + 3 * a1)), .int a2, .int a3, .int a4])).length) Slot.unset).toArray = ls at hl ⊢
  have hl : lv_has ls 6 [(0, .ref (ad 176)), (1, .ref (ad (4 + 3 * a1))), (2, .int a2), (3, .int a3), (4, .int a4)] := hl
  have _h0 := hO
  have hgw := fun (w : Cond) (h : w ∈ gwW) => hts w (List.mem_cons_of_mem _ h)
  have k11 := hgw _ w_4a27d2bd
  have k17 := hgw _ w_b50feff6
  have k21 := hgw _ w_b62a6067
  have k36 := hgw _ w_4f54f888
  have k85 := hgw _ w_adbda9fd
  unfold j_Walk_open at h
  refine lv_aload_n hx hb dX6_open_0 rfl (lv_at hl 0 rfl) ?_
  refine gf_Walk_ledger hx hb hgw iwWalk hown hK hO k36 dX6_open_1 ?_
  refine lv_aload_n hx hb dX6_open_4 rfl (lv_at hl 0 rfl) ?_
  refine gf_Walk_depth hx hb hgw iwWalk hown hK hO k21 dX6_open_5 ?_
  obtain ⟨st2, h3, h⟩ := bV_some h
  refine cw_callv (va_runV (As := [.int (gI st 8 0 0)]) (rest := []) ⟨hx, hb, hml, hown, hts⟩ (c_Ledger_keep l D A ad cA tb0 tb1 (gI st 8 0 0) st st2 h3) (cwV 1 hts (gw_V w_794f36c5 w_0811af9b w_cac76b74 w_7f12e8e2 w_9f2ad499) rfl rfl rfl (by decide +kernel) ⟨Nat.le_of_ble_eq_true rfl, Nat.le_of_ble_eq_true rfl⟩) (cw_preV (k := 148) (ci := 3) hK hO rfl (by decide) (cc_Ledger)) rfl rfl hl.1 rfl (lv_room (Nat.le_of_ble_eq_true rfl)) dX6_open_8 ⟨Nat.zero_le _, Nat.zero_le _⟩) hO (fun H locs hO => ?_)
  refine lv_aload_n hx hb dX6_open_11 rfl (lv_at hl 0 rfl) ?_
  refine gf_Walk_frames hx hb hgw iwWalk hown hK hO k11 dX6_open_12 ?_
  refine lv_aload_n hx hb dX6_open_15 rfl (lv_at hl 0 rfl) ?_
  refine gf_Walk_depth hx hb hgw iwWalk hown hK hO k21 dX6_open_16 ?_
  obtain ⟨hc4, h⟩ := ck_some h
  refine al_FrArr hx hb hK hO hc4 dX6_open_19 ?_
  refine lv_astore (lv' := [(5, .ref (ad (179 + 9 * (gI st2 8 0 0).toNatClampNeg))), (0, .ref (ad 176)), (1, .ref (ad (4 + 3 * a1))), (2, .int a2), (3, .int a3), (4, .int a4)]) hx hb dX6_open_20 hl (by decide) rfl (fun ls hl => ?_)
  refine lv_aload hx hb dX6_open_22 (lv_at hl 0 rfl) ?_
  refine lv_aload_n hx hb dX6_open_24 rfl (lv_at hl 2 rfl) ?_
  refine lv_iload_n hx hb dX6_open_25 rfl (lv_at hl 3 rfl) ?_
  refine lv_iload_n hx hb dX6_open_26 rfl (lv_at hl 4 rfl) ?_
  refine lv_aload_n hx hb dX6_open_27 rfl (lv_at hl 1 rfl) ?_
  refine gf_Walk_counts hx hb hgw iwWalk hown hK hO k17 dX6_open_28 ?_
  refine lv_iconst (v := 0) hx hb dX6_open_31 (by decide) ?_
  obtain ⟨hc5, h⟩ := ck_some h
  refine al_Counts hx hb hK hO hc5 dX6_open_32 ?_
  refine lv_iload hx hb dX6_open_33 (lv_at hl 5 rfl) ?_
  refine lv_iadd hx hb dX6_open_35 ?_
  obtain ⟨st7, h8, h⟩ := bV_some h
  refine cw_callv (va_runV (As := [.ref (ad (4 + 3 * a1)), .int a2, .int a3, .int ((gI st2 7 0 (((0 : Int32)).toNatClampNeg)) + a4)]) (rest := []) ⟨hx, hb, hml, hown, hts⟩ (c_Frame_begin l D A ad cA tb0 tb1 ((gI st2 8 0 0).toNatClampNeg) (ix_lt hc4) a1 ha1 a2 a3 ((gI st2 7 0 (((0 : Int32)).toNatClampNeg)) + a4) st2 st7 h8) (cwV 4 hts (gw_V w_73c44b14 w_05f823c4 w_0b708e23 w_aeeb22ff w_8869f1ce) rfl rfl rfl (by decide +kernel) ⟨Nat.le_of_ble_eq_true rfl, Nat.le_of_ble_eq_true rfl⟩) (cw_preV (k := 179 + 9 * (gI st2 8 0 0).toNatClampNeg) (ci := 2) hK hO rfl (by have := (ix_lt hc4); omega) (cc_Frame (ix_lt hc4))) rfl rfl hl.1 rfl (lv_room (Nat.le_of_ble_eq_true rfl)) dX6_open_36 ⟨Nat.zero_le _, Nat.zero_le _⟩) hO (fun H locs hO => ?_)
  refine lv_aload_n hx hb dX6_open_39 rfl (lv_at hl 1 rfl) ?_
  refine lv_dup hx hb dX6_open_40 rfl ?_
  refine gf_Walk_depth hx hb hgw iwWalk hown hK hO k21 dX6_open_41 ?_
  refine lv_iconst (v := 1) hx hb dX6_open_44 (by decide) ?_
  refine lv_iadd hx hb dX6_open_45 ?_
  refine pf_Walk_depth hx hb hgw iwWalk hown hK hO k21 dX6_open_46 (fun H locs hO => ?_)
  refine lv_aload_n hx hb dX6_open_49 rfl (lv_at hl 1 rfl) ?_
  refine gf_Walk_counts hx hb hgw iwWalk hown hK hO k17 dX6_open_50 ?_
  refine lv_iconst (v := 2) hx hb dX6_open_53 (by decide) ?_
  refine lv_aload_n hx hb dX6_open_54 rfl (lv_at hl 1 rfl) ?_
  refine gf_Walk_counts hx hb hgw iwWalk hown hK hO k17 dX6_open_55 ?_
  refine lv_iconst (v := 2) hx hb dX6_open_58 (by decide) ?_
  obtain ⟨hc9, h⟩ := ck_some h
  refine al_Counts hx hb hK hO hc9 dX6_open_59 ?_
  refine lv_aload_n hx hb dX6_open_60 rfl (lv_at hl 1 rfl) ?_
  refine gf_Walk_depth hx hb hgw iwWalk hown hK hO k21 dX6_open_61 ?_
  refine va_mmax hx hb (by rw [hml]; exact hl.1.symm) hown k85 (hgw _ w_80a2ec50) (hgw _ w_868a9286) (hgw _ w_b6349a14) (Nat.le_of_ble_eq_true rfl) (Nat.le_of_ble_eq_true rfl) (Nat.zero_le _) (Nat.zero_le _) dX6_open_64 ?_
  obtain ⟨hc10, h⟩ := ck_some h
  refine as_Counts hx hb hK hO hc10 dX6_open_67 (fun H locs hO => ?_)
  refine lv_aload hx hb dX6_open_68 (lv_at hl 0 rfl) ?_
  obtain ⟨rfl, rfl⟩ := ret2 h; exact cw_aret hx hb hr ⟨_, rfl⟩ hlocks hO dX6_open_70
-- Walk endWell
def j_Walk_endWell (a1 : Int64) (st : CwS) : Option CwS :=
  ck (ix ((3 : Int32)) 5) <|
  ck (ix ((3 : Int32)) 5) <|
  if (gI (sI (sI st 7 0 (((3 : Int32)).toNatClampNeg) ((gI st 7 0 (((3 : Int32)).toNatClampNeg)) + ((1 : Int32)))) 8 0 0 ((gI (sI st 7 0 (((3 : Int32)).toNatClampNeg) ((gI st 7 0 (((3 : Int32)).toNatClampNeg)) + ((1 : Int32)))) 8 0 0) - ((1 : Int32)))) 8 0 0) ≤ ((0 : Int32)) then
    some (sL (sI (sI st 7 0 (((3 : Int32)).toNatClampNeg) ((gI st 7 0 (((3 : Int32)).toNatClampNeg)) + ((1 : Int32)))) 8 0 0 ((gI (sI st 7 0 (((3 : Int32)).toNatClampNeg) ((gI st 7 0 (((3 : Int32)).toNatClampNeg)) + ((1 : Int32)))) 8 0 0) - ((1 : Int32)))) 5 0 0 a1)
  else
    ck (ix ((gI (sI (sI st 7 0 (((3 : Int32)).toNatClampNeg) ((gI st 7 0 (((3 : Int32)).toNatClampNeg)) + ((1 : Int32)))) 8 0 0 ((gI (sI st 7 0 (((3 : Int32)).toNatClampNeg) ((gI st 7 0 (((3 : Int32)).toNatClampNeg)) + ((1 : Int32)))) 8 0 0) - ((1 : Int32)))) 8 0 0) - ((1 : Int32))) 10) <|
    bR (j_Pile_putNumber (((gI (sI (sI st 7 0 (((3 : Int32)).toNatClampNeg) ((gI st 7 0 (((3 : Int32)).toNatClampNeg)) + ((1 : Int32)))) 8 0 0 ((gI (sI st 7 0 (((3 : Int32)).toNatClampNeg) ((gI st 7 0 (((3 : Int32)).toNatClampNeg)) + ((1 : Int32)))) 8 0 0) - ((1 : Int32)))) 8 0 0) - ((1 : Int32))).toNatClampNeg) a1 (sI (sI st 7 0 (((3 : Int32)).toNatClampNeg) ((gI st 7 0 (((3 : Int32)).toNatClampNeg)) + ((1 : Int32)))) 8 0 0 ((gI (sI st 7 0 (((3 : Int32)).toNatClampNeg) ((gI st 7 0 (((3 : Int32)).toNatClampNeg)) + ((1 : Int32)))) 8 0 0) - ((1 : Int32))))) fun r5 st6 =>
    some st6
set_option maxHeartbeats 4000000 in
set_option maxRecDepth 100000 in
theorem c_Walk_endWell (l : Launch) (D : va_G) (A : Nat → Prop) (ad : Nat → Nat) (cA : Nat → ClassId) (tb0 tb1 : Nat) (a1 : Int64) (st : CwS) (st' : CwS) (h : j_Walk_endWell a1 st = some st') : Met l yX6_endWell (wv yX6_endWell cX6_endWell 3 (none)) ({ frames := 2, cells := 0, slots := 0, locals := 45 }) (va_Pc [.ref (ad 176), .long a1] (cwU D A ad cA tb0 tb1 st)) (cwQv D A ad cA tb0 tb1 st') 0 0 A := by
  refine Met.ofW (cc := cX6_endWell) (maxL := 3) (ret := none) (by decide) rfl ?_
  intro p e s m args below meth c s₁ B hml hv
  obtain ⟨rfl, hP, hK⟩ := hv
  have hx := B.exec
  have hb := B.bytes
  have hr := B.returns
  have hts := atoms_spec (ws := wv yX6_endWell cX6_endWell 3 (none)) B.pre
  have hown : s.vm.findClass RX6 = some m.cls := findClass_of_methodNamed B.named
  have hlocks := B.notSynchronized
  have hO : cwO D A ad cA s st s.heap [] := ⟨hP, va_S.rf⟩
  have hl := lv_entry ([.ref (ad 176), .long a1]) (n := 3) (Nat.le_of_ble_eq_true rfl)
  rw [lg_entry_eq]
  generalize (lg_sl ([.ref (ad 176), .long a1]) ++ List.replicate (3 - (lg_sl ([.ref (ad 176), .long a1])).length) Slot.unset).toArray = ls at hl ⊢
  have hl : lv_has ls 3 [(0, .ref (ad 176)), (1, .long a1)] := hl
  have _h0 := hO
  have hgw := fun (w : Cond) (h : w ∈ gwW) => hts w (List.mem_cons_of_mem _ h)
  have k11 := hgw _ w_4a27d2bd
  have k17 := hgw _ w_b50feff6
  have k21 := hgw _ w_b62a6067
  have k28 := hgw _ w_0e7c3207
  have k62 := hgw _ w_115d9ac3
  unfold j_Walk_endWell at h
  refine lv_aload_n hx hb dX6_endWell_0 rfl (lv_at hl 0 rfl) ?_
  refine gf_Walk_counts hx hb hgw iwWalk hown hK hO k17 dX6_endWell_1 ?_
  refine lv_iconst (v := 3) hx hb dX6_endWell_4 (by decide) ?_
  refine lv_dup2_11 hx hb dX6_endWell_5 rfl rfl ?_
  obtain ⟨hc1, h⟩ := ck_some h
  refine al_Counts hx hb hK hO hc1 dX6_endWell_6 ?_
  refine lv_iconst (v := 1) hx hb dX6_endWell_7 (by decide) ?_
  refine lv_iadd hx hb dX6_endWell_8 ?_
  obtain ⟨hc2, h⟩ := ck_some h
  refine as_Counts hx hb hK hO hc2 dX6_endWell_9 (fun H locs hO => ?_)
  refine lv_aload_n hx hb dX6_endWell_10 rfl (lv_at hl 0 rfl) ?_
  refine lv_dup hx hb dX6_endWell_11 rfl ?_
  refine gf_Walk_depth hx hb hgw iwWalk hown hK hO k21 dX6_endWell_12 ?_
  refine lv_iconst (v := 1) hx hb dX6_endWell_15 (by decide) ?_
  refine lv_isub hx hb dX6_endWell_16 ?_
  refine pf_Walk_depth hx hb hgw iwWalk hown hK hO k21 dX6_endWell_17 (fun H locs hO => ?_)
  refine lv_aload_n hx hb dX6_endWell_20 rfl (lv_at hl 0 rfl) ?_
  refine gf_Walk_depth hx hb hgw iwWalk hown hK hO k21 dX6_endWell_21 ?_
  refine lv_if_le (tgt := 49) hx hb dX6_endWell_24 (by decide) (fun c3 => ?_) (fun c3 => ?_)
  · have h := ite_t c3 h
    refine lv_aload_n hx hb dX6_endWell_49 rfl (lv_at hl 0 rfl) ?_
    refine lv_lload_n hx hb dX6_endWell_50 rfl (lv_at hl 1 rfl) ?_
    refine pf_Walk_result hx hb hgw iwWalk hown hK hO k28 dX6_endWell_51 (fun H locs hO => ?_)
    cases h; exact cw_vret hx hb hr hlocks hO dX6_endWell_54
  · have h := ite_f c3 h
    refine lv_aload_n hx hb dX6_endWell_27 rfl (lv_at hl 0 rfl) ?_
    refine gf_Walk_frames hx hb hgw iwWalk hown hK hO k11 dX6_endWell_28 ?_
    refine lv_aload_n hx hb dX6_endWell_31 rfl (lv_at hl 0 rfl) ?_
    refine gf_Walk_depth hx hb hgw iwWalk hown hK hO k21 dX6_endWell_32 ?_
    refine lv_iconst (v := 1) hx hb dX6_endWell_35 (by decide) ?_
    refine lv_isub hx hb dX6_endWell_36 ?_
    obtain ⟨hc4, h⟩ := ck_some h
    refine al_FrArr hx hb hK hO hc4 dX6_endWell_37 ?_
    refine gf_Frame_pile hx hb hgw iwFrame hown hK hO (ix_lt hc4) k62 dX6_endWell_38 ?_
    refine lv_lload_n hx hb dX6_endWell_41 rfl (lv_at hl 1 rfl) ?_
    obtain ⟨r5, st6, h7, h⟩ := bR_some h
    refine cw_calli (va_runV (As := [.long a1]) (rest := []) ⟨hx, hb, hml, hown, hts⟩ (c_Pile_putNumber l D A ad cA tb0 tb1 (((gI (sI (sI st 7 0 (((3 : Int32)).toNatClampNeg) ((gI st 7 0 (((3 : Int32)).toNatClampNeg)) + ((1 : Int32)))) 8 0 0 ((gI (sI st 7 0 (((3 : Int32)).toNatClampNeg) ((gI st 7 0 (((3 : Int32)).toNatClampNeg)) + ((1 : Int32)))) 8 0 0) - ((1 : Int32)))) 8 0 0) - ((1 : Int32))).toNatClampNeg) (ix_lt hc4) a1 (sI (sI st 7 0 (((3 : Int32)).toNatClampNeg) ((gI st 7 0 (((3 : Int32)).toNatClampNeg)) + ((1 : Int32)))) 8 0 0 ((gI (sI st 7 0 (((3 : Int32)).toNatClampNeg) ((gI st 7 0 (((3 : Int32)).toNatClampNeg)) + ((1 : Int32)))) 8 0 0) - ((1 : Int32)))) r5 st6 h7) (cwV 1 hts (gw_V w_8fddbe94 w_34c9ad22 w_9e5e849e w_76c797a4 w_03086df0) rfl rfl rfl (by decide +kernel) ⟨Nat.le_of_ble_eq_true rfl, Nat.le_of_ble_eq_true rfl⟩) (cw_preV (k := 182 + 9 * ((gI (sI (sI st 7 0 (((3 : Int32)).toNatClampNeg) ((gI st 7 0 (((3 : Int32)).toNatClampNeg)) + ((1 : Int32)))) 8 0 0 ((gI (sI st 7 0 (((3 : Int32)).toNatClampNeg) ((gI st 7 0 (((3 : Int32)).toNatClampNeg)) + ((1 : Int32)))) 8 0 0) - ((1 : Int32)))) 8 0 0) - ((1 : Int32))).toNatClampNeg) (ci := 4) hK hO rfl (by have := (ix_lt hc4); omega) (cc_Pile (ix_lt hc4))) rfl rfl hl.1 rfl (lv_room (Nat.le_of_ble_eq_true rfl)) dX6_endWell_42 ⟨Nat.zero_le _, Nat.zero_le _⟩) hO (fun H locs hO => ?_)
    refine lv_pop hx hb dX6_endWell_45 rfl ?_
    refine lv_goto (tgt := 54) hx hb dX6_endWell_46 (by decide) ?_
    cases h; exact cw_vret hx hb hr hlocks hO dX6_endWell_54
-- Walk undoTo
def j_Walk_undoTo (a1 : Int32) (st : CwS) : Option CwS :=
  ck (ix ((4 : Int32)) 5) <|
  ck (ix ((4 : Int32)) 5) <|
  bV (j_Ledger_restore a1 (sI st 7 0 (((4 : Int32)).toNatClampNeg) ((gI st 7 0 (((4 : Int32)).toNatClampNeg)) + ((gI st 8 0 0) - a1)))) fun st4 =>
  some (sI st4 8 0 0 a1)
set_option maxHeartbeats 4000000 in
set_option maxRecDepth 100000 in
theorem c_Walk_undoTo (l : Launch) (D : va_G) (A : Nat → Prop) (ad : Nat → Nat) (cA : Nat → ClassId) (tb0 tb1 : Nat) (a1 : Int32) (st : CwS) (st' : CwS) (h : j_Walk_undoTo a1 st = some st') : Met l yX6_undoTo (wv yX6_undoTo cX6_undoTo 2 (none)) ({ frames := 2, cells := 0, slots := 0, locals := 61 }) (va_Pc [.ref (ad 176), .int a1] (cwU D A ad cA tb0 tb1 st)) (cwQv D A ad cA tb0 tb1 st') 0 0 A := by
  refine Met.ofW (cc := cX6_undoTo) (maxL := 2) (ret := none) (by decide) rfl ?_
  intro p e s m args below meth c s₁ B hml hv
  obtain ⟨rfl, hP, hK⟩ := hv
  have hx := B.exec
  have hb := B.bytes
  have hr := B.returns
  have hts := atoms_spec (ws := wv yX6_undoTo cX6_undoTo 2 (none)) B.pre
  have hown : s.vm.findClass RX6 = some m.cls := findClass_of_methodNamed B.named
  have hlocks := B.notSynchronized
  have hO : cwO D A ad cA s st s.heap [] := ⟨hP, va_S.rf⟩
  have hl := lv_entry ([.ref (ad 176), .int a1]) (n := 2) (Nat.le_of_ble_eq_true rfl)
  rw [lg_entry_eq]
  generalize (lg_sl ([.ref (ad 176), .int a1]) ++ List.replicate (2 - (lg_sl ([.ref (ad 176), .int a1])).length) Slot.unset).toArray = ls at hl ⊢
  have hl : lv_has ls 2 [(0, .ref (ad 176)), (1, .int a1)] := hl
  have _h0 := hO
  have hgw := fun (w : Cond) (h : w ∈ gwW) => hts w (List.mem_cons_of_mem _ h)
  have k17 := hgw _ w_b50feff6
  have k21 := hgw _ w_b62a6067
  have k36 := hgw _ w_4f54f888
  unfold j_Walk_undoTo at h
  refine lv_aload_n hx hb dX6_undoTo_0 rfl (lv_at hl 0 rfl) ?_
  refine gf_Walk_counts hx hb hgw iwWalk hown hK hO k17 dX6_undoTo_1 ?_
  refine lv_iconst (v := 4) hx hb dX6_undoTo_4 (by decide) ?_
  refine lv_dup2_11 hx hb dX6_undoTo_5 rfl rfl ?_
  obtain ⟨hc1, h⟩ := ck_some h
  refine al_Counts hx hb hK hO hc1 dX6_undoTo_6 ?_
  refine lv_aload_n hx hb dX6_undoTo_7 rfl (lv_at hl 0 rfl) ?_
  refine gf_Walk_depth hx hb hgw iwWalk hown hK hO k21 dX6_undoTo_8 ?_
  refine lv_iload_n hx hb dX6_undoTo_11 rfl (lv_at hl 1 rfl) ?_
  refine lv_isub hx hb dX6_undoTo_12 ?_
  refine lv_iadd hx hb dX6_undoTo_13 ?_
  obtain ⟨hc2, h⟩ := ck_some h
  refine as_Counts hx hb hK hO hc2 dX6_undoTo_14 (fun H locs hO => ?_)
  refine lv_aload_n hx hb dX6_undoTo_15 rfl (lv_at hl 0 rfl) ?_
  refine gf_Walk_ledger hx hb hgw iwWalk hown hK hO k36 dX6_undoTo_16 ?_
  refine lv_iload_n hx hb dX6_undoTo_19 rfl (lv_at hl 1 rfl) ?_
  obtain ⟨st4, h5, h⟩ := bV_some h
  refine cw_callv (va_runV (As := [.int a1]) (rest := []) ⟨hx, hb, hml, hown, hts⟩ (c_Ledger_restore l D A ad cA tb0 tb1 a1 (sI st 7 0 (((4 : Int32)).toNatClampNeg) ((gI st 7 0 (((4 : Int32)).toNatClampNeg)) + ((gI st 8 0 0) - a1))) st4 h5) (cwV 1 hts (gw_V w_fabbcafd w_f7b23bc1 w_84252a1b w_7f12e8e2 w_d374c02e) rfl rfl rfl (by decide +kernel) ⟨Nat.le_of_ble_eq_true rfl, Nat.le_of_ble_eq_true rfl⟩) (cw_preV (k := 148) (ci := 3) hK hO rfl (by decide) (cc_Ledger)) rfl rfl hl.1 rfl (lv_room (Nat.le_of_ble_eq_true rfl)) dX6_undoTo_20 ⟨Nat.zero_le _, Nat.zero_le _⟩) hO (fun H locs hO => ?_)
  refine lv_aload_n hx hb dX6_undoTo_23 rfl (lv_at hl 0 rfl) ?_
  refine lv_iload_n hx hb dX6_undoTo_24 rfl (lv_at hl 1 rfl) ?_
  refine pf_Walk_depth hx hb hgw iwWalk hown hK hO k21 dX6_undoTo_25 (fun H locs hO => ?_)
  cases h; exact cw_vret hx hb hr hlocks hO dX6_undoTo_28
-- Walk fail
def j_Walk_fail_L38 : Nat → Int32 → Int32 → CwS → Option CwS
  | 0, _, _, _ => none
  | n + 1, x1, x2, st =>
    if x2 ≤ ((0 : Int32)) then
      some (sI st 9 0 0 x1)
    else
      ck (ix (x2 - ((1 : Int32))) 10) <|
      bR (j_Frame_handle ((x2 - ((1 : Int32))).toNatClampNeg) x1 st) fun r7 st8 =>
      if r7 = ((0 : Int32)) then
        bV (j_Walk_undoTo (x2 - ((1 : Int32))) st8) fun st12 =>
        j_Walk_fail_L38 n x1 (x2 + (-1 : Int32)) st12
      else
        some st8
def j_Walk_fail (a1 : Int32) (st : CwS) : Option CwS :=
  ck (ix ((1 : Int32)) 5) <|
  if (gI st 7 0 (((1 : Int32)).toNatClampNeg)) < ((10 : Int32)) then
    ck (ix ((1 : Int32)) 5) <|
    ck (ix ((1 : Int32)) 5) <|
    j_Walk_fail_L38 11 a1 (gI (sI st 7 0 (((1 : Int32)).toNatClampNeg) ((gI st 7 0 (((1 : Int32)).toNatClampNeg)) + ((1 : Int32)))) 8 0 0) (sI st 7 0 (((1 : Int32)).toNatClampNeg) ((gI st 7 0 (((1 : Int32)).toNatClampNeg)) + ((1 : Int32))))
  else
    bV (j_Walk_undoTo ((0 : Int32)) st) fun st15 =>
    some (sI st15 9 0 0 ((-3 : Int32)))
set_option maxHeartbeats 4000000 in
set_option maxRecDepth 100000 in
theorem c_Walk_fail_L38 {l : Launch} {D : va_G} {A : Nat → Prop} {ad : Nat → Nat} {cA : Nat → ClassId} {tb0 tb1 : Nat} {p : Program} {e : Env} {s : State} {m : MethodId} {args : Array Value} {below : List Frame} {meth : Method} {c : Code} (S : CallFix p m c cX6_fail 3 s args (wv yX6_fail cX6_fail 3 (none)) RX6) (hr : meth.sig.returnType = none) (hlocks : meth.locks = false) (hK : cwK D A ad cA tb0 tb1 s) (st' : CwS) : ∀ (n : Nat) (x1 : Int32) (x2 : Int32) (st : CwS) (H : Heap) (locs : List Loc) (ls : Array Slot), j_Walk_fail_L38 n x1 x2 st = some st' → cwO D A ad cA s st H locs → lv_has ls 3 [(0, .ref (ad 176)), (1, .int x1), (2, .int x2)] → W p l e ({ frames := 3, cells := 0, slots := 0, locals := 82 }) s m args below meth c H locs 0 0 (MQ below (cwQv D A ad cA tb0 tb1 st') args s 0 0 A) (F0 m 38 ls []) := by
  obtain ⟨hx, hb, hml, hown, hts⟩ := S
  have hgw := fun (w : Cond) (h : w ∈ gwW) => hts w (List.mem_cons_of_mem _ h)
  have k11 := hgw _ w_4a27d2bd
  have k17 := hgw _ w_b50feff6
  have k21 := hgw _ w_b62a6067
  have k25 := hgw _ w_166650d6
  intro n
  induction n with
  | zero =>
    intro x1 x2 st H locs ls h hO hl
    cases h
  | succ n ih =>
    intro x1 x2 st H locs ls h hO hl
    unfold j_Walk_fail_L38 at h
    refine lv_iload_n hx hb dX6_fail_38 rfl (lv_at hl 2 rfl) ?_
    refine lv_if_le (tgt := 71) hx hb dX6_fail_39 (by decide) (fun c5 => ?_) (fun c5 => ?_)
    · have h := ite_t c5 h
      refine lv_aload_n hx hb dX6_fail_71 rfl (lv_at hl 0 rfl) ?_
      refine lv_iload_n hx hb dX6_fail_72 rfl (lv_at hl 1 rfl) ?_
      refine pf_Walk_answer hx hb hgw iwWalk hown hK hO k25 dX6_fail_73 (fun H locs hO => ?_)
      cases h; exact cw_vret hx hb hr hlocks hO dX6_fail_76
    · have h := ite_f c5 h
      refine lv_aload_n hx hb dX6_fail_42 rfl (lv_at hl 0 rfl) ?_
      refine gf_Walk_frames hx hb hgw iwWalk hown hK hO k11 dX6_fail_43 ?_
      refine lv_iload_n hx hb dX6_fail_46 rfl (lv_at hl 2 rfl) ?_
      refine lv_iconst (v := 1) hx hb dX6_fail_47 (by decide) ?_
      refine lv_isub hx hb dX6_fail_48 ?_
      obtain ⟨hc6, h⟩ := ck_some h
      refine al_FrArr hx hb hK hO hc6 dX6_fail_49 ?_
      refine lv_iload_n hx hb dX6_fail_50 rfl (lv_at hl 1 rfl) ?_
      obtain ⟨r7, st8, h9, h⟩ := bR_some h
      refine cw_calli (va_runV (As := [.int x1]) (rest := []) ⟨hx, hb, hml, hown, hts⟩ (c_Frame_handle l D A ad cA tb0 tb1 ((x2 - ((1 : Int32))).toNatClampNeg) (ix_lt hc6) x1 st r7 st8 h9) (cwV 1 hts (gw_V w_79ee79a2 w_c19dedaa w_8f92d28b w_aeeb22ff w_65b55aab) rfl rfl rfl (by decide +kernel) ⟨Nat.le_of_ble_eq_true rfl, Nat.le_of_ble_eq_true rfl⟩) (cw_preV (k := 179 + 9 * (x2 - ((1 : Int32))).toNatClampNeg) (ci := 2) hK hO rfl (by have := (ix_lt hc6); omega) (cc_Frame (ix_lt hc6))) rfl rfl hl.1 rfl (lv_room (Nat.le_of_ble_eq_true rfl)) dX6_fail_51 ⟨Nat.zero_le _, Nat.zero_le _⟩) hO (fun H locs hO => ?_)
      refine lv_if_eq (tgt := 58) hx hb dX6_fail_54 (by decide) (fun c10 => ?_) (fun c10 => ?_)
      · have h := ite_t c10 h
        refine lv_aload_n hx hb dX6_fail_58 rfl (lv_at hl 0 rfl) ?_
        refine lv_iload_n hx hb dX6_fail_59 rfl (lv_at hl 2 rfl) ?_
        refine lv_iconst (v := 1) hx hb dX6_fail_60 (by decide) ?_
        refine lv_isub hx hb dX6_fail_61 ?_
        obtain ⟨st12, h13, h⟩ := bV_some h
        refine cw_callv (va_runV (As := [.int (x2 - ((1 : Int32)))]) (rest := []) ⟨hx, hb, hml, hown, hts⟩ (c_Walk_undoTo l D A ad cA tb0 tb1 (x2 - ((1 : Int32))) st8 st12 h13) (cwV 1 hts (gw_V w_6a1a8a51 w_e6ecb092 w_513f21f0 w_f8f5642f w_7c6d5d6e) rfl rfl rfl (by decide +kernel) ⟨Nat.le_of_ble_eq_true rfl, Nat.le_of_ble_eq_true rfl⟩) (cw_preV (k := 176) (ci := 6) hK hO rfl (by decide) (cc_Walk)) rfl rfl hl.1 rfl (lv_room (Nat.le_of_ble_eq_true rfl)) dX6_fail_62 ⟨Nat.zero_le _, Nat.zero_le _⟩) hO (fun H locs hO => ?_)
        refine lv_iinc (v := x2 + (-1 : Int32)) (lv' := [(2, .int (x2 + (-1 : Int32))), (0, .ref (ad 176)), (1, .int x1)]) hx hb dX6_fail_65 hl (k := 2) rfl rfl (by decide) rfl (fun ls hl => ?_)
        refine lv_goto (tgt := 38) hx hb dX6_fail_68 (by decide) ?_
        exact ih x1 (x2 + (-1 : Int32)) _ _ _ _ h hO (lv_sub hl [1, 2, 0] rfl)
      · have h := ite_f c10 h
        cases h; exact cw_vret hx hb hr hlocks hO dX6_fail_57
set_option maxHeartbeats 4000000 in
set_option maxRecDepth 100000 in
theorem c_Walk_fail (l : Launch) (D : va_G) (A : Nat → Prop) (ad : Nat → Nat) (cA : Nat → ClassId) (tb0 tb1 : Nat) (a1 : Int32) (st : CwS) (st' : CwS) (h : j_Walk_fail a1 st = some st') : Met l yX6_fail (wv yX6_fail cX6_fail 3 (none)) ({ frames := 3, cells := 0, slots := 0, locals := 82 }) (va_Pc [.ref (ad 176), .int a1] (cwU D A ad cA tb0 tb1 st)) (cwQv D A ad cA tb0 tb1 st') 0 0 A := by
  refine Met.ofW (cc := cX6_fail) (maxL := 3) (ret := none) (by decide) rfl ?_
  intro p e s m args below meth c s₁ B hml hv
  obtain ⟨rfl, hP, hK⟩ := hv
  have hx := B.exec
  have hb := B.bytes
  have hr := B.returns
  have hts := atoms_spec (ws := wv yX6_fail cX6_fail 3 (none)) B.pre
  have hown : s.vm.findClass RX6 = some m.cls := findClass_of_methodNamed B.named
  have hlocks := B.notSynchronized
  have hO : cwO D A ad cA s st s.heap [] := ⟨hP, va_S.rf⟩
  have hl := lv_entry ([.ref (ad 176), .int a1]) (n := 3) (Nat.le_of_ble_eq_true rfl)
  rw [lg_entry_eq]
  generalize (lg_sl ([.ref (ad 176), .int a1]) ++ List.replicate (3 - (lg_sl ([.ref (ad 176), .int a1])).length) Slot.unset).toArray = ls at hl ⊢
  have hl : lv_has ls 3 [(0, .ref (ad 176)), (1, .int a1)] := hl
  have _h0 := hO
  have hgw := fun (w : Cond) (h : w ∈ gwW) => hts w (List.mem_cons_of_mem _ h)
  have k11 := hgw _ w_4a27d2bd
  have k17 := hgw _ w_b50feff6
  have k21 := hgw _ w_b62a6067
  have k25 := hgw _ w_166650d6
  unfold j_Walk_fail at h
  refine lv_aload_n hx hb dX6_fail_0 rfl (lv_at hl 0 rfl) ?_
  refine gf_Walk_counts hx hb hgw iwWalk hown hK hO k17 dX6_fail_1 ?_
  refine lv_iconst (v := 1) hx hb dX6_fail_4 (by decide) ?_
  obtain ⟨hc1, h⟩ := ck_some h
  refine al_Counts hx hb hK hO hc1 dX6_fail_5 ?_
  refine lv_bipush (v := 10) hx hb dX6_fail_6 (by decide) ?_
  refine lv_icmp_lt (tgt := 23) hx hb dX6_fail_8 (by decide) (fun c2 => ?_) (fun c2 => ?_)
  · have h := ite_t c2 h
    refine lv_aload_n hx hb dX6_fail_23 rfl (lv_at hl 0 rfl) ?_
    refine gf_Walk_counts hx hb hgw iwWalk hown hK hO k17 dX6_fail_24 ?_
    refine lv_iconst (v := 1) hx hb dX6_fail_27 (by decide) ?_
    refine lv_dup2_11 hx hb dX6_fail_28 rfl rfl ?_
    obtain ⟨hc3, h⟩ := ck_some h
    refine al_Counts hx hb hK hO hc3 dX6_fail_29 ?_
    refine lv_iconst (v := 1) hx hb dX6_fail_30 (by decide) ?_
    refine lv_iadd hx hb dX6_fail_31 ?_
    obtain ⟨hc4, h⟩ := ck_some h
    refine as_Counts hx hb hK hO hc4 dX6_fail_32 (fun H locs hO => ?_)
    refine lv_aload_n hx hb dX6_fail_33 rfl (lv_at hl 0 rfl) ?_
    refine gf_Walk_depth hx hb hgw iwWalk hown hK hO k21 dX6_fail_34 ?_
    refine lv_istore_n (lv' := [(2, .int (gI (sI st 7 0 (((1 : Int32)).toNatClampNeg) ((gI st 7 0 (((1 : Int32)).toNatClampNeg)) + ((1 : Int32)))) 8 0 0)), (0, .ref (ad 176)), (1, .int a1)]) hx hb dX6_fail_37 rfl hl (by decide) rfl (fun ls hl => ?_)
    exact c_Walk_fail_L38 ⟨hx, hb, hml, hown, hts⟩ hr hlocks hK st' 11 a1 (gI (sI st 7 0 (((1 : Int32)).toNatClampNeg) ((gI st 7 0 (((1 : Int32)).toNatClampNeg)) + ((1 : Int32)))) 8 0 0) _ _ _ _ h hO (lv_sub hl [1, 2, 0] rfl)
  · have h := ite_f c2 h
    refine lv_aload_n hx hb dX6_fail_11 rfl (lv_at hl 0 rfl) ?_
    refine lv_iconst (v := 0) hx hb dX6_fail_12 (by decide) ?_
    obtain ⟨st15, h16, h⟩ := bV_some h
    refine cw_callv (va_runV (As := [.int ((0 : Int32))]) (rest := []) ⟨hx, hb, hml, hown, hts⟩ (c_Walk_undoTo l D A ad cA tb0 tb1 ((0 : Int32)) st st15 h16) (cwV 1 hts (gw_V w_6a1a8a51 w_e6ecb092 w_513f21f0 w_f8f5642f w_7c6d5d6e) rfl rfl rfl (by decide +kernel) ⟨Nat.le_of_ble_eq_true rfl, Nat.le_of_ble_eq_true rfl⟩) (cw_preV (k := 176) (ci := 6) hK hO rfl (by decide) (cc_Walk)) rfl rfl hl.1 rfl (lv_room (Nat.le_of_ble_eq_true rfl)) dX6_fail_13 ⟨Nat.zero_le _, Nat.zero_le _⟩) hO (fun H locs hO => ?_)
    refine lv_aload_n hx hb dX6_fail_16 rfl (lv_at hl 0 rfl) ?_
    refine lv_bipush (v := -3) hx hb dX6_fail_17 (by decide) ?_
    refine pf_Walk_answer hx hb hgw iwWalk hown hK hO k25 dX6_fail_19 (fun H locs hO => ?_)
    cases h; exact cw_vret hx hb hr hlocks hO dX6_fail_22
-- Walk isUnderWay
def j_Walk_isUnderWay_L2 : Nat → Int32 → Int32 → CwS → Option (Int32 × CwS)
  | 0, _, _, _ => none
  | n + 1, x1, x2, st =>
    if (gI st 8 0 0) ≤ x2 then
      some ((0 : Int32), st)
    else
      if ((10 : Int32)) ≤ x2 then
        some ((0 : Int32), st)
      else
        ck (ix x2 10) <|
        if (gI st 13 x2.toNatClampNeg 0) = x1 then
          some ((1 : Int32), st)
        else
          j_Walk_isUnderWay_L2 n x1 (x2 + (1 : Int32)) st
def j_Walk_isUnderWay (a1 : Int32) (st : CwS) : Option (Int32 × CwS) :=
  j_Walk_isUnderWay_L2 11 a1 ((0 : Int32)) st
set_option maxHeartbeats 4000000 in
set_option maxRecDepth 100000 in
theorem c_Walk_isUnderWay_L2 {l : Launch} {D : va_G} {A : Nat → Prop} {ad : Nat → Nat} {cA : Nat → ClassId} {tb0 tb1 : Nat} {p : Program} {e : Env} {s : State} {m : MethodId} {args : Array Value} {below : List Frame} {meth : Method} {c : Code} (S : CallFix p m c cX6_isUnderWay 3 s args (wv yX6_isUnderWay cX6_isUnderWay 3 (some .boolean)) RX6) (hr : meth.sig.returnType = some .boolean) (hlocks : meth.locks = false) (hK : cwK D A ad cA tb0 tb1 s) (r : Int32) (st' : CwS) : ∀ (n : Nat) (x1 : Int32) (x2 : Int32) (st : CwS) (H : Heap) (locs : List Loc) (ls : Array Slot), j_Walk_isUnderWay_L2 n x1 x2 st = some (r, st') → cwO D A ad cA s st H locs → lv_has ls 3 [(0, .ref (ad 176)), (1, .int x1), (2, .int x2)] → W p l e ({ frames := 0, cells := 0, slots := 0, locals := 0 }) s m args below meth c H locs 0 0 (MQ below (cwQi D A ad cA tb0 tb1 r st') args s 0 0 A) (F0 m 2 ls []) := by
  obtain ⟨hx, hb, hml, hown, hts⟩ := S
  have hgw := fun (w : Cond) (h : w ∈ gwW) => hts w (List.mem_cons_of_mem _ h)
  have k11 := hgw _ w_4a27d2bd
  have k21 := hgw _ w_b62a6067
  have k214 := hgw _ w_3799d173
  intro n
  induction n with
  | zero =>
    intro x1 x2 st H locs ls h hO hl
    cases h
  | succ n ih =>
    intro x1 x2 st H locs ls h hO hl
    unfold j_Walk_isUnderWay_L2 at h
    refine lv_iload_n hx hb dX6_isUnderWay_2 rfl (lv_at hl 2 rfl) ?_
    refine lv_aload_n hx hb dX6_isUnderWay_3 rfl (lv_at hl 0 rfl) ?_
    refine gf_Walk_depth hx hb hgw iwWalk hown hK hO k21 dX6_isUnderWay_4 ?_
    refine lv_icmp_ge (tgt := 37) hx hb dX6_isUnderWay_7 (by decide) (fun c1 => ?_) (fun c1 => ?_)
    · have h := ite_t c1 h
      refine lv_iconst (v := 0) hx hb dX6_isUnderWay_37 (by decide) ?_
      obtain ⟨rfl, rfl⟩ := ret2 h; exact cw_zret hx hb hr hlocks hO rfl dX6_isUnderWay_38
    · have h := ite_f c1 h
      refine lv_iload_n hx hb dX6_isUnderWay_10 rfl (lv_at hl 2 rfl) ?_
      refine lv_bipush (v := 10) hx hb dX6_isUnderWay_11 (by decide) ?_
      refine lv_icmp_ge (tgt := 37) hx hb dX6_isUnderWay_13 (by decide) (fun c2 => ?_) (fun c2 => ?_)
      · have h := ite_t c2 h
        refine lv_iconst (v := 0) hx hb dX6_isUnderWay_37 (by decide) ?_
        obtain ⟨rfl, rfl⟩ := ret2 h; exact cw_zret hx hb hr hlocks hO rfl dX6_isUnderWay_38
      · have h := ite_f c2 h
        refine lv_aload_n hx hb dX6_isUnderWay_16 rfl (lv_at hl 0 rfl) ?_
        refine gf_Walk_frames hx hb hgw iwWalk hown hK hO k11 dX6_isUnderWay_17 ?_
        refine lv_iload_n hx hb dX6_isUnderWay_20 rfl (lv_at hl 2 rfl) ?_
        obtain ⟨hc3, h⟩ := ck_some h
        refine al_FrArr hx hb hK hO hc3 dX6_isUnderWay_21 ?_
        refine gf_Frame_contract hx hb hgw iwFrame hown hK hO (ix_lt hc3) k214 dX6_isUnderWay_22 ?_
        refine lv_iload_n hx hb dX6_isUnderWay_25 rfl (lv_at hl 1 rfl) ?_
        refine lv_icmp_ne (tgt := 31) hx hb dX6_isUnderWay_26 (by decide) (fun c4 => ?_) (fun c4 => ?_)
        · have h := ite_f c4 h
          refine lv_iinc (v := x2 + (1 : Int32)) (lv' := [(2, .int (x2 + (1 : Int32))), (0, .ref (ad 176)), (1, .int x1)]) hx hb dX6_isUnderWay_31 hl (k := 2) rfl rfl (by decide) rfl (fun ls hl => ?_)
          refine lv_goto (tgt := 2) hx hb dX6_isUnderWay_34 (by decide) ?_
          exact ih x1 (x2 + (1 : Int32)) _ _ _ _ h hO (lv_sub hl [1, 2, 0] rfl)
        · have h := ite_t c4 h
          refine lv_iconst (v := 1) hx hb dX6_isUnderWay_29 (by decide) ?_
          obtain ⟨rfl, rfl⟩ := ret2 h; exact cw_zret hx hb hr hlocks hO rfl dX6_isUnderWay_30
set_option maxHeartbeats 4000000 in
set_option maxRecDepth 100000 in
theorem c_Walk_isUnderWay (l : Launch) (D : va_G) (A : Nat → Prop) (ad : Nat → Nat) (cA : Nat → ClassId) (tb0 tb1 : Nat) (a1 : Int32) (st : CwS) (r : Int32) (st' : CwS) (h : j_Walk_isUnderWay a1 st = some (r, st')) : Met l yX6_isUnderWay (wv yX6_isUnderWay cX6_isUnderWay 3 (some .boolean)) ({ frames := 0, cells := 0, slots := 0, locals := 0 }) (va_Pc [.ref (ad 176), .int a1] (cwU D A ad cA tb0 tb1 st)) (cwQi D A ad cA tb0 tb1 r st') 0 0 A := by
  refine Met.ofW (cc := cX6_isUnderWay) (maxL := 3) (ret := some .boolean) (by decide) rfl ?_
  intro p e s m args below meth c s₁ B hml hv
  obtain ⟨rfl, hP, hK⟩ := hv
  have hx := B.exec
  have hb := B.bytes
  have hr := B.returns
  have hts := atoms_spec (ws := wv yX6_isUnderWay cX6_isUnderWay 3 (some .boolean)) B.pre
  have hown : s.vm.findClass RX6 = some m.cls := findClass_of_methodNamed B.named
  have hlocks := B.notSynchronized
  have hO : cwO D A ad cA s st s.heap [] := ⟨hP, va_S.rf⟩
  have hl := lv_entry ([.ref (ad 176), .int a1]) (n := 3) (Nat.le_of_ble_eq_true rfl)
  rw [lg_entry_eq]
  generalize (lg_sl ([.ref (ad 176), .int a1]) ++ List.replicate (3 - (lg_sl ([.ref (ad 176), .int a1])).length) Slot.unset).toArray = ls at hl ⊢
  have hl : lv_has ls 3 [(0, .ref (ad 176)), (1, .int a1)] := hl
  have _h0 := hO
  have hgw := fun (w : Cond) (h : w ∈ gwW) => hts w (List.mem_cons_of_mem _ h)
  have k11 := hgw _ w_4a27d2bd
  have k21 := hgw _ w_b62a6067
  have k214 := hgw _ w_3799d173
  unfold j_Walk_isUnderWay at h
  refine lv_iconst (v := 0) hx hb dX6_isUnderWay_0 (by decide) ?_
  refine lv_istore_n (lv' := [(2, .int ((0 : Int32))), (0, .ref (ad 176)), (1, .int a1)]) hx hb dX6_isUnderWay_1 rfl hl (by decide) rfl (fun ls hl => ?_)
  exact c_Walk_isUnderWay_L2 ⟨hx, hb, hml, hown, hts⟩ hr hlocks hK r st' 11 a1 ((0 : Int32)) _ _ _ _ h hO (lv_sub hl [1, 2, 0] rfl)
-- Walk callFailure
def j_Walk_callFailure (a1 : Int32) (a2 : Int64) (a4 : Int32) (st : CwS) : Option (Int32 × CwS) :=
  if (lg_cmp a2 ((0 : Int64))) < ((0 : Int32)) then
    some ((9 : Int32), st)
  else
    ck (ix a1 8) <|
    if (lg_cmp a2 (gL st 1 0 a1.toNatClampNeg)) ≤ ((0 : Int32)) then
      if a4 < ((0 : Int32)) then
        some ((12 : Int32), st)
      else
        bR (j_CW_isBehaviour (a4 / ((8 : Int32))) (a4 - a4 / ((8 : Int32)) * ((8 : Int32))) st) fun r5 st6 =>
        if r5 = ((0 : Int32)) then
          some ((12 : Int32), st6)
        else
          ck (ix (a4 / ((8 : Int32))) 8) <|
          if (gI st6 3 0 ((a4 / ((8 : Int32))).toNatClampNeg)) = ((0 : Int32)) then
            if (gI st6 8 0 0) < ((10 : Int32)) then
              bR (j_Ledger_canMove a1 (a4 / ((8 : Int32))) a2 st6) fun r12 st13 =>
              if r12 = ((0 : Int32)) then
                some ((6 : Int32), st13)
              else
                some ((0 : Int32), st13)
            else
              some ((10 : Int32), st6)
          else
            bR (j_Walk_isUnderWay (a4 / ((8 : Int32))) st6) fun r16 st17 =>
            if r16 = ((0 : Int32)) then
              if (gI st17 8 0 0) < ((10 : Int32)) then
                bR (j_Ledger_canMove a1 (a4 / ((8 : Int32))) a2 st17) fun r21 st22 =>
                if r21 = ((0 : Int32)) then
                  some ((6 : Int32), st22)
                else
                  some ((0 : Int32), st22)
              else
                some ((10 : Int32), st17)
            else
              some ((8 : Int32), st17)
    else
      some ((9 : Int32), st)
set_option maxHeartbeats 4000000 in
set_option maxRecDepth 100000 in
theorem c_Walk_callFailure (l : Launch) (D : va_G) (A : Nat → Prop) (ad : Nat → Nat) (cA : Nat → ClassId) (tb0 tb1 : Nat) (a1 : Int32) (a2 : Int64) (a4 : Int32) (st : CwS) (r : Int32) (st' : CwS) (h : j_Walk_callFailure a1 a2 a4 st = some (r, st')) : Met l yX6_callFailure (wv yX6_callFailure cX6_callFailure 5 (some .int)) ({ frames := 2, cells := 0, slots := 0, locals := 41 }) (va_Pc [.ref (ad 176), .int a1, .long a2, .int a4] (cwU D A ad cA tb0 tb1 st)) (cwQi D A ad cA tb0 tb1 r st') 0 0 A := by
  refine Met.ofW (cc := cX6_callFailure) (maxL := 5) (ret := some .int) (by decide) rfl ?_
  intro p e s m args below meth c s₁ B hml hv
  obtain ⟨rfl, hP, hK⟩ := hv
  have hx := B.exec
  have hb := B.bytes
  have hr := B.returns
  have hts := atoms_spec (ws := wv yX6_callFailure cX6_callFailure 5 (some .int)) B.pre
  have hown : s.vm.findClass RX6 = some m.cls := findClass_of_methodNamed B.named
  have hlocks := B.notSynchronized
  have hO : cwO D A ad cA s st s.heap [] := ⟨hP, va_S.rf⟩
  have hl := lv_entry ([.ref (ad 176), .int a1, .long a2, .int a4]) (n := 5) (Nat.le_of_ble_eq_true rfl)
  rw [lg_entry_eq]
  generalize (lg_sl ([.ref (ad 176), .int a1, .long a2, .int a4]) ++ List.replicate (5 - (lg_sl ([.ref (ad 176), .int a1, .long a2, .int a4])).length) Slot.unset).toArray = ls at hl ⊢
  have hl : lv_has ls 5 [(0, .ref (ad 176)), (1, .int a1), (2, .long a2), (4, .int a4)] := hl
  have _h0 := hO
  have hgw := fun (w : Cond) (h : w ∈ gwW) => hts w (List.mem_cons_of_mem _ h)
  have k21 := hgw _ w_b62a6067
  have k32 := hgw _ w_6dd6e69a
  have k36 := hgw _ w_4f54f888
  have k210 := hgw _ w_112bdd1c
  have k278 := hgw _ w_93e070e1
  unfold j_Walk_callFailure at h
  refine lv_lload_n hx hb dX6_callFailure_0 rfl (lv_at hl 2 rfl) ?_
  refine lv_lconst (v := 0) hx hb dX6_callFailure_1 (by decide) ?_
  refine W.lcmp hx hb dX6_callFailure_2 ?_
  refine lv_if_lt (tgt := 20) hx hb dX6_callFailure_3 (by decide) (fun c1 => ?_) (fun c1 => ?_)
  · have h := ite_t c1 h
    refine lv_bipush (v := 9) hx hb dX6_callFailure_20 (by decide) ?_
    obtain ⟨rfl, rfl⟩ := ret2 h; exact cw_iret hx hb hr hlocks hO dX6_callFailure_22
  · have h := ite_f c1 h
    refine lv_lload_n hx hb dX6_callFailure_6 rfl (lv_at hl 2 rfl) ?_
    refine lv_aload_n hx hb dX6_callFailure_7 rfl (lv_at hl 0 rfl) ?_
    refine gf_Walk_ledger hx hb hgw iwWalk hown hK hO k36 dX6_callFailure_8 ?_
    refine gf_Ledger_balances hx hb hgw iwLedger hown hK hO k210 dX6_callFailure_11 ?_
    refine lv_iload_n hx hb dX6_callFailure_14 rfl (lv_at hl 1 rfl) ?_
    obtain ⟨hc2, h⟩ := ck_some h
    refine al_Bals hx hb hK hO hc2 dX6_callFailure_15 ?_
    refine W.lcmp hx hb dX6_callFailure_16 ?_
    refine lv_if_le (tgt := 23) hx hb dX6_callFailure_17 (by decide) (fun c3 => ?_) (fun c3 => ?_)
    · have h := ite_t c3 h
      refine lv_iload hx hb dX6_callFailure_23 (lv_at hl 3 rfl) ?_
      refine lv_if_lt (tgt := 44) hx hb dX6_callFailure_25 (by decide) (fun c4 => ?_) (fun c4 => ?_)
      · have h := ite_t c4 h
        refine lv_bipush (v := 12) hx hb dX6_callFailure_44 (by decide) ?_
        obtain ⟨rfl, rfl⟩ := ret2 h; exact cw_iret hx hb hr hlocks hO dX6_callFailure_46
      · have h := ite_f c4 h
        refine lv_iload hx hb dX6_callFailure_28 (lv_at hl 3 rfl) ?_
        refine lv_bipush (v := 8) hx hb dX6_callFailure_30 (by decide) ?_
        refine lv_idiv hx hb dX6_callFailure_32 (by decide) ?_
        refine lv_iload hx hb dX6_callFailure_33 (lv_at hl 3 rfl) ?_
        refine lv_bipush (v := 8) hx hb dX6_callFailure_35 (by decide) ?_
        refine lv_irem hx hb dX6_callFailure_37 (by decide) ?_
        obtain ⟨r5, st6, h7, h⟩ := bR_some h
        refine cw_calli (va_runSN (As := [.int (a4 / ((8 : Int32))), .int (a4 - a4 / ((8 : Int32)) * ((8 : Int32)))]) (rest := []) ⟨hx, hb, hml, hown, hts⟩ (c_CW_isBehaviour l D A ad cA tb0 tb1 (a4 / ((8 : Int32))) (a4 - a4 / ((8 : Int32)) * ((8 : Int32))) st r5 st6 h7) ⟨va_cnB 2 hts (gw_N w_f9d22def) rfl rfl rfl hK.2.2.2.2.2.2.2.1 (hgw _ w_0fc29077) (by decide +kernel) ⟨Nat.le_of_ble_eq_true rfl, Nat.le_of_ble_eq_true rfl⟩, hgw _ w_03540a48, trivial⟩ (cw_preS hK hO) rfl rfl hl.1 rfl (lv_room (Nat.le_of_ble_eq_true rfl)) dX6_callFailure_38 ⟨Nat.zero_le _, Nat.zero_le _⟩) hO (fun H locs hO => ?_)
        refine lv_if_ne (tgt := 47) hx hb dX6_callFailure_41 (by decide) (fun c8 => ?_) (fun c8 => ?_)
        · have h := ite_f c8 h
          refine lv_aload_n hx hb dX6_callFailure_47 rfl (lv_at hl 0 rfl) ?_
          refine gf_Walk_book hx hb hgw iwWalk hown hK hO k32 dX6_callFailure_48 ?_
          refine gf_Book_guarded hx hb hgw iwBook hown hK hO k278 dX6_callFailure_51 ?_
          refine lv_iload hx hb dX6_callFailure_54 (lv_at hl 3 rfl) ?_
          refine lv_bipush (v := 8) hx hb dX6_callFailure_56 (by decide) ?_
          refine lv_idiv hx hb dX6_callFailure_58 (by decide) ?_
          obtain ⟨hc9, h⟩ := ck_some h
          refine al_Guard hx hb hK hO hc9 dX6_callFailure_59 ?_
          refine lv_if_eq (tgt := 78) hx hb dX6_callFailure_60 (by decide) (fun c10 => ?_) (fun c10 => ?_)
          · have h := ite_t c10 h
            refine lv_aload_n hx hb dX6_callFailure_78 rfl (lv_at hl 0 rfl) ?_
            refine gf_Walk_depth hx hb hgw iwWalk hown hK hO k21 dX6_callFailure_79 ?_
            refine lv_bipush (v := 10) hx hb dX6_callFailure_82 (by decide) ?_
            refine lv_icmp_lt (tgt := 90) hx hb dX6_callFailure_84 (by decide) (fun c11 => ?_) (fun c11 => ?_)
            · have h := ite_t c11 h
              refine lv_aload_n hx hb dX6_callFailure_90 rfl (lv_at hl 0 rfl) ?_
              refine gf_Walk_ledger hx hb hgw iwWalk hown hK hO k36 dX6_callFailure_91 ?_
              refine lv_iload_n hx hb dX6_callFailure_94 rfl (lv_at hl 1 rfl) ?_
              refine lv_iload hx hb dX6_callFailure_95 (lv_at hl 3 rfl) ?_
              refine lv_bipush (v := 8) hx hb dX6_callFailure_97 (by decide) ?_
              refine lv_idiv hx hb dX6_callFailure_99 (by decide) ?_
              refine lv_lload_n hx hb dX6_callFailure_100 rfl (lv_at hl 2 rfl) ?_
              obtain ⟨r12, st13, h14, h⟩ := bR_some h
              refine cw_calli (va_runV (As := [.int a1, .int (a4 / ((8 : Int32))), .long a2]) (rest := []) ⟨hx, hb, hml, hown, hts⟩ (c_Ledger_canMove l D A ad cA tb0 tb1 a1 (a4 / ((8 : Int32))) a2 st6 r12 st13 h14) (cwV 3 hts (gw_V w_30ec52e4 w_a386f5ee w_816675ed w_7f12e8e2 w_1585a2cb) rfl rfl rfl (by decide +kernel) ⟨Nat.le_of_ble_eq_true rfl, Nat.le_of_ble_eq_true rfl⟩) (cw_preV (k := 148) (ci := 3) hK hO rfl (by decide) (cc_Ledger)) rfl rfl hl.1 rfl (lv_room (Nat.le_of_ble_eq_true rfl)) dX6_callFailure_101 ⟨Nat.zero_le _, Nat.zero_le _⟩) hO (fun H locs hO => ?_)
              refine lv_if_eq (tgt := 111) hx hb dX6_callFailure_104 (by decide) (fun c15 => ?_) (fun c15 => ?_)
              · have h := ite_t c15 h
                refine lv_bipush (v := 6) hx hb dX6_callFailure_111 (by decide) ?_
                obtain ⟨rfl, rfl⟩ := ret2 h; exact cw_iret hx hb hr hlocks hO dX6_callFailure_113
              · have h := ite_f c15 h
                refine lv_iconst (v := 0) hx hb dX6_callFailure_107 (by decide) ?_
                refine lv_goto (tgt := 113) hx hb dX6_callFailure_108 (by decide) ?_
                obtain ⟨rfl, rfl⟩ := ret2 h; exact cw_iret hx hb hr hlocks hO dX6_callFailure_113
            · have h := ite_f c11 h
              refine lv_bipush (v := 10) hx hb dX6_callFailure_87 (by decide) ?_
              obtain ⟨rfl, rfl⟩ := ret2 h; exact cw_iret hx hb hr hlocks hO dX6_callFailure_89
          · have h := ite_f c10 h
            refine lv_aload_n hx hb dX6_callFailure_63 rfl (lv_at hl 0 rfl) ?_
            refine lv_iload hx hb dX6_callFailure_64 (lv_at hl 3 rfl) ?_
            refine lv_bipush (v := 8) hx hb dX6_callFailure_66 (by decide) ?_
            refine lv_idiv hx hb dX6_callFailure_68 (by decide) ?_
            obtain ⟨r16, st17, h18, h⟩ := bR_some h
            refine cw_calli (va_runV (As := [.int (a4 / ((8 : Int32)))]) (rest := []) ⟨hx, hb, hml, hown, hts⟩ (c_Walk_isUnderWay l D A ad cA tb0 tb1 (a4 / ((8 : Int32))) st6 r16 st17 h18) (cwV 1 hts (gw_V w_a45c4b15 w_1b280cd3 w_e5ab82b5 w_f8f5642f w_a9aa258d) rfl rfl rfl (by decide +kernel) ⟨Nat.le_of_ble_eq_true rfl, Nat.le_of_ble_eq_true rfl⟩) (cw_preV (k := 176) (ci := 6) hK hO rfl (by decide) (cc_Walk)) rfl rfl hl.1 rfl (lv_room (Nat.le_of_ble_eq_true rfl)) dX6_callFailure_69 ⟨Nat.zero_le _, Nat.zero_le _⟩) hO (fun H locs hO => ?_)
            refine lv_if_eq (tgt := 78) hx hb dX6_callFailure_72 (by decide) (fun c19 => ?_) (fun c19 => ?_)
            · have h := ite_t c19 h
              refine lv_aload_n hx hb dX6_callFailure_78 rfl (lv_at hl 0 rfl) ?_
              refine gf_Walk_depth hx hb hgw iwWalk hown hK hO k21 dX6_callFailure_79 ?_
              refine lv_bipush (v := 10) hx hb dX6_callFailure_82 (by decide) ?_
              refine lv_icmp_lt (tgt := 90) hx hb dX6_callFailure_84 (by decide) (fun c20 => ?_) (fun c20 => ?_)
              · have h := ite_t c20 h
                refine lv_aload_n hx hb dX6_callFailure_90 rfl (lv_at hl 0 rfl) ?_
                refine gf_Walk_ledger hx hb hgw iwWalk hown hK hO k36 dX6_callFailure_91 ?_
                refine lv_iload_n hx hb dX6_callFailure_94 rfl (lv_at hl 1 rfl) ?_
                refine lv_iload hx hb dX6_callFailure_95 (lv_at hl 3 rfl) ?_
                refine lv_bipush (v := 8) hx hb dX6_callFailure_97 (by decide) ?_
                refine lv_idiv hx hb dX6_callFailure_99 (by decide) ?_
                refine lv_lload_n hx hb dX6_callFailure_100 rfl (lv_at hl 2 rfl) ?_
                obtain ⟨r21, st22, h23, h⟩ := bR_some h
                refine cw_calli (va_runV (As := [.int a1, .int (a4 / ((8 : Int32))), .long a2]) (rest := []) ⟨hx, hb, hml, hown, hts⟩ (c_Ledger_canMove l D A ad cA tb0 tb1 a1 (a4 / ((8 : Int32))) a2 st17 r21 st22 h23) (cwV 3 hts (gw_V w_30ec52e4 w_a386f5ee w_816675ed w_7f12e8e2 w_1585a2cb) rfl rfl rfl (by decide +kernel) ⟨Nat.le_of_ble_eq_true rfl, Nat.le_of_ble_eq_true rfl⟩) (cw_preV (k := 148) (ci := 3) hK hO rfl (by decide) (cc_Ledger)) rfl rfl hl.1 rfl (lv_room (Nat.le_of_ble_eq_true rfl)) dX6_callFailure_101 ⟨Nat.zero_le _, Nat.zero_le _⟩) hO (fun H locs hO => ?_)
                refine lv_if_eq (tgt := 111) hx hb dX6_callFailure_104 (by decide) (fun c24 => ?_) (fun c24 => ?_)
                · have h := ite_t c24 h
                  refine lv_bipush (v := 6) hx hb dX6_callFailure_111 (by decide) ?_
                  obtain ⟨rfl, rfl⟩ := ret2 h; exact cw_iret hx hb hr hlocks hO dX6_callFailure_113
                · have h := ite_f c24 h
                  refine lv_iconst (v := 0) hx hb dX6_callFailure_107 (by decide) ?_
                  refine lv_goto (tgt := 113) hx hb dX6_callFailure_108 (by decide) ?_
                  obtain ⟨rfl, rfl⟩ := ret2 h; exact cw_iret hx hb hr hlocks hO dX6_callFailure_113
              · have h := ite_f c20 h
                refine lv_bipush (v := 10) hx hb dX6_callFailure_87 (by decide) ?_
                obtain ⟨rfl, rfl⟩ := ret2 h; exact cw_iret hx hb hr hlocks hO dX6_callFailure_89
            · have h := ite_f c19 h
              refine lv_bipush (v := 8) hx hb dX6_callFailure_75 (by decide) ?_
              obtain ⟨rfl, rfl⟩ := ret2 h; exact cw_iret hx hb hr hlocks hO dX6_callFailure_77
        · have h := ite_t c8 h
          refine lv_bipush (v := 12) hx hb dX6_callFailure_44 (by decide) ?_
          obtain ⟨rfl, rfl⟩ := ret2 h; exact cw_iret hx hb hr hlocks hO dX6_callFailure_46
    · have h := ite_f c3 h
      refine lv_bipush (v := 9) hx hb dX6_callFailure_20 (by decide) ?_
      obtain ⟨rfl, rfl⟩ := ret2 h; exact cw_iret hx hb hr hlocks hO dX6_callFailure_22
-- Walk putLeaf
def j_Walk_putLeaf (a1 : Nat) (a2 : Int32) (st : CwS) : Option (Int32 × CwS) :=
  bR (j_CW_isLeaf a2 st) fun r1 st2 =>
  if r1 = ((0 : Int32)) then
    some ((12 : Int32), st2)
  else
    ck (ix (((gI st2 13 a1 0) * ((8 : Int32))) + a2) 64) <|
    bR (j_Pile_putNumber a1 (gL st2 0 0 ((((gI st2 13 a1 0) * ((8 : Int32))) + a2).toNatClampNeg)) st2) fun r6 st7 =>
    some (r6, st7)
set_option maxHeartbeats 4000000 in
set_option maxRecDepth 100000 in
theorem c_Walk_putLeaf (l : Launch) (D : va_G) (A : Nat → Prop) (ad : Nat → Nat) (cA : Nat → ClassId) (tb0 tb1 : Nat) (a1 : Nat) (ha1 : a1 < 10) (a2 : Int32) (st : CwS) (r : Int32) (st' : CwS) (h : j_Walk_putLeaf a1 a2 st = some (r, st')) : Met l yX6_putLeaf (wv yX6_putLeaf cX6_putLeaf 3 (some .int)) ({ frames := 2, cells := 0, slots := 0, locals := 45 }) (va_Pc [.ref (ad 176), .ref (ad (179 + 9 * a1)), .int a2] (cwU D A ad cA tb0 tb1 st)) (cwQi D A ad cA tb0 tb1 r st') 0 0 A := by
  refine Met.ofW (cc := cX6_putLeaf) (maxL := 3) (ret := some .int) (by decide) rfl ?_
  intro p e s m args below meth c s₁ B hml hv
  obtain ⟨rfl, hP, hK⟩ := hv
  have hx := B.exec
  have hb := B.bytes
  have hr := B.returns
  have hts := atoms_spec (ws := wv yX6_putLeaf cX6_putLeaf 3 (some .int)) B.pre
  have hown : s.vm.findClass RX6 = some m.cls := findClass_of_methodNamed B.named
  have hlocks := B.notSynchronized
  have hO : cwO D A ad cA s st s.heap [] := ⟨hP, va_S.rf⟩
  have hl := lv_entry ([.ref (ad 176), .ref (ad (179 + 9 * a1)), .int a2]) (n := 3) (Nat.le_of_ble_eq_true rfl)
  rw [lg_entry_eq]
  generalize (lg_sl ([.ref (ad 176), .ref (ad (179 + 9 * a1)), .int a2]) ++ List.replicate (3 - (lg_sl ([.ref (ad 176), .ref (ad (179 + 9 * a1)), .int a2])).length) Slot.unset).toArray = ls at hl ⊢
  have hl : lv_has ls 3 [(0, .ref (ad 176)), (1, .ref (ad (179 + 9 * a1))), (2, .int a2)] := hl
  have _h0 := hO
  have hgw := fun (w : Cond) (h : w ∈ gwW) => hts w (List.mem_cons_of_mem _ h)
  have k36 := hgw _ w_4f54f888
  have k62 := hgw _ w_115d9ac3
  have k214 := hgw _ w_3799d173
  have k227 := hgw _ w_d39a3034
  unfold j_Walk_putLeaf at h
  refine lv_iload_n hx hb dX6_putLeaf_0 rfl (lv_at hl 2 rfl) ?_
  obtain ⟨r1, st2, h3, h⟩ := bR_some h
  refine cw_calli (va_runSN (As := [.int a2]) (rest := []) ⟨hx, hb, hml, hown, hts⟩ (c_CW_isLeaf l D A ad cA tb0 tb1 a2 st r1 st2 h3) ⟨va_cnB 1 hts (gw_N w_778875df) rfl rfl rfl hK.2.2.2.1 (hgw _ w_0fc29077) (by decide +kernel) ⟨Nat.le_of_ble_eq_true rfl, Nat.le_of_ble_eq_true rfl⟩, hgw _ w_45a6a7ae, trivial⟩ (cw_preS hK hO) rfl rfl hl.1 rfl (lv_room (Nat.le_of_ble_eq_true rfl)) dX6_putLeaf_1 ⟨Nat.zero_le _, Nat.zero_le _⟩) hO (fun H locs hO => ?_)
  refine lv_if_ne (tgt := 10) hx hb dX6_putLeaf_4 (by decide) (fun c4 => ?_) (fun c4 => ?_)
  · have h := ite_f c4 h
    refine lv_aload_n hx hb dX6_putLeaf_10 rfl (lv_at hl 1 rfl) ?_
    refine gf_Frame_pile hx hb hgw iwFrame hown hK hO ha1 k62 dX6_putLeaf_11 ?_
    refine lv_aload_n hx hb dX6_putLeaf_14 rfl (lv_at hl 0 rfl) ?_
    refine gf_Walk_ledger hx hb hgw iwWalk hown hK hO k36 dX6_putLeaf_15 ?_
    refine gf_Ledger_leaves hx hb hgw iwLedger hown hK hO k227 dX6_putLeaf_18 ?_
    refine lv_aload_n hx hb dX6_putLeaf_21 rfl (lv_at hl 1 rfl) ?_
    refine gf_Frame_contract hx hb hgw iwFrame hown hK hO ha1 k214 dX6_putLeaf_22 ?_
    refine lv_bipush (v := 8) hx hb dX6_putLeaf_25 (by decide) ?_
    refine lv_imul hx hb dX6_putLeaf_27 ?_
    refine lv_iload_n hx hb dX6_putLeaf_28 rfl (lv_at hl 2 rfl) ?_
    refine lv_iadd hx hb dX6_putLeaf_29 ?_
    obtain ⟨hc5, h⟩ := ck_some h
    refine al_Leaves hx hb hK hO hc5 dX6_putLeaf_30 ?_
    obtain ⟨r6, st7, h8, h⟩ := bR_some h
    refine cw_calli (va_runV (As := [.long (gL st2 0 0 ((((gI st2 13 a1 0) * ((8 : Int32))) + a2).toNatClampNeg))]) (rest := []) ⟨hx, hb, hml, hown, hts⟩ (c_Pile_putNumber l D A ad cA tb0 tb1 a1 ha1 (gL st2 0 0 ((((gI st2 13 a1 0) * ((8 : Int32))) + a2).toNatClampNeg)) st2 r6 st7 h8) (cwV 1 hts (gw_V w_8fddbe94 w_34c9ad22 w_9e5e849e w_76c797a4 w_03086df0) rfl rfl rfl (by decide +kernel) ⟨Nat.le_of_ble_eq_true rfl, Nat.le_of_ble_eq_true rfl⟩) (cw_preV (k := 182 + 9 * a1) (ci := 4) hK hO rfl (by have := ha1; omega) (cc_Pile ha1)) rfl rfl hl.1 rfl (lv_room (Nat.le_of_ble_eq_true rfl)) dX6_putLeaf_31 ⟨Nat.zero_le _, Nat.zero_le _⟩) hO (fun H locs hO => ?_)
    obtain ⟨rfl, rfl⟩ := ret2 h; exact cw_iret hx hb hr hlocks hO dX6_putLeaf_34
  · have h := ite_t c4 h
    refine lv_bipush (v := 12) hx hb dX6_putLeaf_7 (by decide) ?_
    obtain ⟨rfl, rfl⟩ := ret2 h; exact cw_iret hx hb hr hlocks hO dX6_putLeaf_9
-- Walk changeLeaf
def j_Walk_changeLeaf (a1 : Nat) (a2 : Int32) (st : CwS) : Option (Int32 × CwS) :=
  bR (j_CW_isLeaf a2 st) fun r1 st2 =>
  if r1 = ((0 : Int32)) then
    some ((12 : Int32), st2)
  else
    bR (j_Pile_tookNumber a1 ((0 : Int32)) st2) fun r5 st6 =>
    if r5 = ((0 : Int32)) then
      some ((4 : Int32), st6)
    else
      bR (j_Pile_took a1 ((0 : Int32)) st6) fun r9 st10 =>
      ck (ix (((gI st6 13 a1 0) * ((8 : Int32))) + a2) 64) <|
      some ((0 : Int32), sL st10 0 0 ((((gI st6 13 a1 0) * ((8 : Int32))) + a2).toNatClampNeg) r9)
set_option maxHeartbeats 4000000 in
set_option maxRecDepth 100000 in
theorem c_Walk_changeLeaf (l : Launch) (D : va_G) (A : Nat → Prop) (ad : Nat → Nat) (cA : Nat → ClassId) (tb0 tb1 : Nat) (a1 : Nat) (ha1 : a1 < 10) (a2 : Int32) (st : CwS) (r : Int32) (st' : CwS) (h : j_Walk_changeLeaf a1 a2 st = some (r, st')) : Met l yX6_changeLeaf (wv yX6_changeLeaf cX6_changeLeaf 3 (some .int)) ({ frames := 2, cells := 0, slots := 0, locals := 43 }) (va_Pc [.ref (ad 176), .ref (ad (179 + 9 * a1)), .int a2] (cwU D A ad cA tb0 tb1 st)) (cwQi D A ad cA tb0 tb1 r st') 0 0 A := by
  refine Met.ofW (cc := cX6_changeLeaf) (maxL := 3) (ret := some .int) (by decide) rfl ?_
  intro p e s m args below meth c s₁ B hml hv
  obtain ⟨rfl, hP, hK⟩ := hv
  have hx := B.exec
  have hb := B.bytes
  have hr := B.returns
  have hts := atoms_spec (ws := wv yX6_changeLeaf cX6_changeLeaf 3 (some .int)) B.pre
  have hown : s.vm.findClass RX6 = some m.cls := findClass_of_methodNamed B.named
  have hlocks := B.notSynchronized
  have hO : cwO D A ad cA s st s.heap [] := ⟨hP, va_S.rf⟩
  have hl := lv_entry ([.ref (ad 176), .ref (ad (179 + 9 * a1)), .int a2]) (n := 3) (Nat.le_of_ble_eq_true rfl)
  rw [lg_entry_eq]
  generalize (lg_sl ([.ref (ad 176), .ref (ad (179 + 9 * a1)), .int a2]) ++ List.replicate (3 - (lg_sl ([.ref (ad 176), .ref (ad (179 + 9 * a1)), .int a2])).length) Slot.unset).toArray = ls at hl ⊢
  have hl : lv_has ls 3 [(0, .ref (ad 176)), (1, .ref (ad (179 + 9 * a1))), (2, .int a2)] := hl
  have _h0 := hO
  have hgw := fun (w : Cond) (h : w ∈ gwW) => hts w (List.mem_cons_of_mem _ h)
  have k36 := hgw _ w_4f54f888
  have k62 := hgw _ w_115d9ac3
  have k214 := hgw _ w_3799d173
  have k227 := hgw _ w_d39a3034
  unfold j_Walk_changeLeaf at h
  refine lv_iload_n hx hb dX6_changeLeaf_0 rfl (lv_at hl 2 rfl) ?_
  obtain ⟨r1, st2, h3, h⟩ := bR_some h
  refine cw_calli (va_runSN (As := [.int a2]) (rest := []) ⟨hx, hb, hml, hown, hts⟩ (c_CW_isLeaf l D A ad cA tb0 tb1 a2 st r1 st2 h3) ⟨va_cnB 1 hts (gw_N w_778875df) rfl rfl rfl hK.2.2.2.1 (hgw _ w_0fc29077) (by decide +kernel) ⟨Nat.le_of_ble_eq_true rfl, Nat.le_of_ble_eq_true rfl⟩, hgw _ w_45a6a7ae, trivial⟩ (cw_preS hK hO) rfl rfl hl.1 rfl (lv_room (Nat.le_of_ble_eq_true rfl)) dX6_changeLeaf_1 ⟨Nat.zero_le _, Nat.zero_le _⟩) hO (fun H locs hO => ?_)
  refine lv_if_ne (tgt := 10) hx hb dX6_changeLeaf_4 (by decide) (fun c4 => ?_) (fun c4 => ?_)
  · have h := ite_f c4 h
    refine lv_aload_n hx hb dX6_changeLeaf_10 rfl (lv_at hl 1 rfl) ?_
    refine gf_Frame_pile hx hb hgw iwFrame hown hK hO ha1 k62 dX6_changeLeaf_11 ?_
    refine lv_iconst (v := 0) hx hb dX6_changeLeaf_14 (by decide) ?_
    obtain ⟨r5, st6, h7, h⟩ := bR_some h
    refine cw_calli (va_runV (As := [.int ((0 : Int32))]) (rest := []) ⟨hx, hb, hml, hown, hts⟩ (c_Pile_tookNumber l D A ad cA tb0 tb1 a1 ha1 ((0 : Int32)) st2 r5 st6 h7) (cwV 1 hts (gw_V w_1588eb10 w_710a0455 w_eea10879 w_76c797a4 w_f9f5f760) rfl rfl rfl (by decide +kernel) ⟨Nat.le_of_ble_eq_true rfl, Nat.le_of_ble_eq_true rfl⟩) (cw_preV (k := 182 + 9 * a1) (ci := 4) hK hO rfl (by have := ha1; omega) (cc_Pile ha1)) rfl rfl hl.1 rfl (lv_room (Nat.le_of_ble_eq_true rfl)) dX6_changeLeaf_15 ⟨Nat.zero_le _, Nat.zero_le _⟩) hO (fun H locs hO => ?_)
    refine lv_if_ne (tgt := 23) hx hb dX6_changeLeaf_18 (by decide) (fun c8 => ?_) (fun c8 => ?_)
    · have h := ite_f c8 h
      refine lv_aload_n hx hb dX6_changeLeaf_23 rfl (lv_at hl 0 rfl) ?_
      refine gf_Walk_ledger hx hb hgw iwWalk hown hK hO k36 dX6_changeLeaf_24 ?_
      refine gf_Ledger_leaves hx hb hgw iwLedger hown hK hO k227 dX6_changeLeaf_27 ?_
      refine lv_aload_n hx hb dX6_changeLeaf_30 rfl (lv_at hl 1 rfl) ?_
      refine gf_Frame_contract hx hb hgw iwFrame hown hK hO ha1 k214 dX6_changeLeaf_31 ?_
      refine lv_bipush (v := 8) hx hb dX6_changeLeaf_34 (by decide) ?_
      refine lv_imul hx hb dX6_changeLeaf_36 ?_
      refine lv_iload_n hx hb dX6_changeLeaf_37 rfl (lv_at hl 2 rfl) ?_
      refine lv_iadd hx hb dX6_changeLeaf_38 ?_
      refine lv_aload_n hx hb dX6_changeLeaf_39 rfl (lv_at hl 1 rfl) ?_
      refine gf_Frame_pile hx hb hgw iwFrame hown hK hO ha1 k62 dX6_changeLeaf_40 ?_
      refine lv_iconst (v := 0) hx hb dX6_changeLeaf_43 (by decide) ?_
      obtain ⟨r9, st10, h11, h⟩ := bR_some h
      refine cw_calll (va_runV (As := [.int ((0 : Int32))]) (rest := [.int (((gI st6 13 a1 0) * ((8 : Int32))) + a2), .ref (ad 149)]) ⟨hx, hb, hml, hown, hts⟩ (c_Pile_took l D A ad cA tb0 tb1 a1 ha1 ((0 : Int32)) st6 r9 st10 h11) (cwV 1 hts (gw_V w_93fed6db w_e50f7684 w_26b160a3 w_76c797a4 w_c905c078) rfl rfl rfl (by decide +kernel) ⟨Nat.le_of_ble_eq_true rfl, Nat.le_of_ble_eq_true rfl⟩) (cw_preV (k := 182 + 9 * a1) (ci := 4) hK hO rfl (by have := ha1; omega) (cc_Pile ha1)) rfl rfl hl.1 rfl (lv_room (Nat.le_of_ble_eq_true rfl)) dX6_changeLeaf_44 ⟨Nat.zero_le _, Nat.zero_le _⟩) hO (fun H locs hO => ?_)
      obtain ⟨hc12, h⟩ := ck_some h
      refine as_Leaves hx hb hK hO hc12 dX6_changeLeaf_47 (fun H locs hO => ?_)
      refine lv_iconst (v := 0) hx hb dX6_changeLeaf_48 (by decide) ?_
      obtain ⟨rfl, rfl⟩ := ret2 h; exact cw_iret hx hb hr hlocks hO dX6_changeLeaf_49
    · have h := ite_t c8 h
      refine lv_iconst (v := 4) hx hb dX6_changeLeaf_21 (by decide) ?_
      obtain ⟨rfl, rfl⟩ := ret2 h; exact cw_iret hx hb hr hlocks hO dX6_changeLeaf_22
  · have h := ite_t c4 h
    refine lv_bipush (v := 12) hx hb dX6_changeLeaf_7 (by decide) ?_
    obtain ⟨rfl, rfl⟩ := ret2 h; exact cw_iret hx hb hr hlocks hO dX6_changeLeaf_9
-- Walk putTwice
def j_Walk_putTwice (a0 : Nat) (st : CwS) : Option (Int32 × CwS) :=
  bR (j_Pile_tookKind a0 ((0 : Int32)) st) fun r1 st2 =>
  bR (j_Pile_took a0 ((0 : Int32)) st2) fun r4 st5 =>
  bR (j_Pile_put a0 r1 r4 st5) fun r7 st8 =>
  bR (j_Pile_put a0 r1 r4 st8) fun r10 st11 =>
  some (r10, st11)
set_option maxHeartbeats 4000000 in
set_option maxRecDepth 100000 in
theorem c_Walk_putTwice (l : Launch) (D : va_G) (A : Nat → Prop) (ad : Nat → Nat) (cA : Nat → ClassId) (tb0 tb1 : Nat) (a0 : Nat) (ha0 : a0 < 10) (st : CwS) (r : Int32) (st' : CwS) (h : j_Walk_putTwice a0 st = some (r, st')) : Met l yX6_putTwice (wv yX6_putTwice cX6_putTwice 4 (some .int)) ({ frames := 1, cells := 0, slots := 0, locals := 23 }) (va_Pc [.ref (ad (182 + 9 * a0))] (cwU D A ad cA tb0 tb1 st)) (cwQi D A ad cA tb0 tb1 r st') 0 0 A := by
  refine Met.ofW (cc := cX6_putTwice) (maxL := 4) (ret := some .int) (by decide) rfl ?_
  intro p e s m args below meth c s₁ B hml hv
  obtain ⟨rfl, hP, hK⟩ := hv
  have hx := B.exec
  have hb := B.bytes
  have hr := B.returns
  have hts := atoms_spec (ws := wv yX6_putTwice cX6_putTwice 4 (some .int)) B.pre
  have hown : s.vm.findClass RX6 = some m.cls := findClass_of_methodNamed B.named
  have hlocks := B.notSynchronized
  have hO : cwO D A ad cA s st s.heap [] := ⟨hP, va_S.rf⟩
  have hl := lv_entry ([.ref (ad (182 + 9 * a0))]) (n := 4) (Nat.le_of_ble_eq_true rfl)
  rw [lg_entry_eq]
  generalize (lg_sl ([.ref (ad (182 + 9 * a0))]) ++ List.replicate (4 - (lg_sl ([.ref (ad (182 + 9 * a0))])).length) Slot.unset).toArray = ls at hl ⊢
  have hl : lv_has ls 4 [(0, .ref (ad (182 + 9 * a0)))] := hl
  have _h0 := hO
  have hgw := fun (w : Cond) (h : w ∈ gwW) => hts w (List.mem_cons_of_mem _ h)
  unfold j_Walk_putTwice at h
  refine lv_aload_n hx hb dX6_putTwice_0 rfl (lv_at hl 0 rfl) ?_
  refine lv_iconst (v := 0) hx hb dX6_putTwice_1 (by decide) ?_
  obtain ⟨r1, st2, h3, h⟩ := bR_some h
  refine cw_calli (va_runV (As := [.int ((0 : Int32))]) (rest := []) ⟨hx, hb, hml, hown, hts⟩ (c_Pile_tookKind l D A ad cA tb0 tb1 a0 ha0 ((0 : Int32)) st r1 st2 h3) (cwV 1 hts (gw_V w_46dcffd2 w_5c9fe01c w_ceab1f00 w_76c797a4 w_72af167e) rfl rfl rfl (by decide +kernel) ⟨Nat.le_of_ble_eq_true rfl, Nat.le_of_ble_eq_true rfl⟩) (cw_preV (k := 182 + 9 * a0) (ci := 4) hK hO rfl (by have := ha0; omega) (cc_Pile ha0)) rfl rfl hl.1 rfl (lv_room (Nat.le_of_ble_eq_true rfl)) dX6_putTwice_2 ⟨Nat.zero_le _, Nat.zero_le _⟩) hO (fun H locs hO => ?_)
  refine lv_istore_n (lv' := [(1, .int r1), (0, .ref (ad (182 + 9 * a0)))]) hx hb dX6_putTwice_5 rfl hl (by decide) rfl (fun ls hl => ?_)
  refine lv_aload_n hx hb dX6_putTwice_6 rfl (lv_at hl 1 rfl) ?_
  refine lv_iconst (v := 0) hx hb dX6_putTwice_7 (by decide) ?_
  obtain ⟨r4, st5, h6, h⟩ := bR_some h
  refine cw_calll (va_runV (As := [.int ((0 : Int32))]) (rest := []) ⟨hx, hb, hml, hown, hts⟩ (c_Pile_took l D A ad cA tb0 tb1 a0 ha0 ((0 : Int32)) st2 r4 st5 h6) (cwV 1 hts (gw_V w_93fed6db w_e50f7684 w_26b160a3 w_76c797a4 w_c905c078) rfl rfl rfl (by decide +kernel) ⟨Nat.le_of_ble_eq_true rfl, Nat.le_of_ble_eq_true rfl⟩) (cw_preV (k := 182 + 9 * a0) (ci := 4) hK hO rfl (by have := ha0; omega) (cc_Pile ha0)) rfl rfl hl.1 rfl (lv_room (Nat.le_of_ble_eq_true rfl)) dX6_putTwice_8 ⟨Nat.zero_le _, Nat.zero_le _⟩) hO (fun H locs hO => ?_)
  refine lv_lstore_n (lv' := [(2, .long r4), (1, .int r1), (0, .ref (ad (182 + 9 * a0)))]) hx hb dX6_putTwice_11 rfl hl (by decide) rfl (fun ls hl => ?_)
  refine lv_aload_n hx hb dX6_putTwice_12 rfl (lv_at hl 2 rfl) ?_
  refine lv_iload_n hx hb dX6_putTwice_13 rfl (lv_at hl 1 rfl) ?_
  refine lv_lload_n hx hb dX6_putTwice_14 rfl (lv_at hl 0 rfl) ?_
  obtain ⟨r7, st8, h9, h⟩ := bR_some h
  refine cw_calli (va_runV (As := [.int r1, .long r4]) (rest := []) ⟨hx, hb, hml, hown, hts⟩ (c_Pile_put l D A ad cA tb0 tb1 a0 ha0 r1 r4 st5 r7 st8 h9) (cwV 2 hts (gw_V w_085b0eb2 w_d8d501aa w_46b57ea6 w_76c797a4 w_54242bcb) rfl rfl rfl (by decide +kernel) ⟨Nat.le_of_ble_eq_true rfl, Nat.le_of_ble_eq_true rfl⟩) (cw_preV (k := 182 + 9 * a0) (ci := 4) hK hO rfl (by have := ha0; omega) (cc_Pile ha0)) rfl rfl hl.1 rfl (lv_room (Nat.le_of_ble_eq_true rfl)) dX6_putTwice_15 ⟨Nat.zero_le _, Nat.zero_le _⟩) hO (fun H locs hO => ?_)
  refine lv_pop hx hb dX6_putTwice_18 rfl ?_
  refine lv_aload_n hx hb dX6_putTwice_19 rfl (lv_at hl 2 rfl) ?_
  refine lv_iload_n hx hb dX6_putTwice_20 rfl (lv_at hl 1 rfl) ?_
  refine lv_lload_n hx hb dX6_putTwice_21 rfl (lv_at hl 0 rfl) ?_
  obtain ⟨r10, st11, h12, h⟩ := bR_some h
  refine cw_calli (va_runV (As := [.int r1, .long r4]) (rest := []) ⟨hx, hb, hml, hown, hts⟩ (c_Pile_put l D A ad cA tb0 tb1 a0 ha0 r1 r4 st8 r10 st11 h12) (cwV 2 hts (gw_V w_085b0eb2 w_d8d501aa w_46b57ea6 w_76c797a4 w_54242bcb) rfl rfl rfl (by decide +kernel) ⟨Nat.le_of_ble_eq_true rfl, Nat.le_of_ble_eq_true rfl⟩) (cw_preV (k := 182 + 9 * a0) (ci := 4) hK hO rfl (by have := ha0; omega) (cc_Pile ha0)) rfl rfl hl.1 rfl (lv_room (Nat.le_of_ble_eq_true rfl)) dX6_putTwice_22 ⟨Nat.zero_le _, Nat.zero_le _⟩) hO (fun H locs hO => ?_)
  obtain ⟨rfl, rfl⟩ := ret2 h; exact cw_iret hx hb hr hlocks hO dX6_putTwice_25
-- Walk putSwapped
def j_Walk_putSwapped (a0 : Nat) (st : CwS) : Option (Int32 × CwS) :=
  bR (j_Pile_tookKind a0 ((0 : Int32)) st) fun r1 st2 =>
  bR (j_Pile_took a0 ((0 : Int32)) st2) fun r4 st5 =>
  bR (j_Pile_tookKind a0 ((1 : Int32)) st5) fun r7 st8 =>
  bR (j_Pile_took a0 ((1 : Int32)) st8) fun r10 st11 =>
  bR (j_Pile_put a0 r1 r4 st11) fun r13 st14 =>
  bR (j_Pile_put a0 r7 r10 st14) fun r16 st17 =>
  some (r16, st17)
set_option maxHeartbeats 4000000 in
set_option maxRecDepth 100000 in
theorem c_Walk_putSwapped (l : Launch) (D : va_G) (A : Nat → Prop) (ad : Nat → Nat) (cA : Nat → ClassId) (tb0 tb1 : Nat) (a0 : Nat) (ha0 : a0 < 10) (st : CwS) (r : Int32) (st' : CwS) (h : j_Walk_putSwapped a0 st = some (r, st')) : Met l yX6_putSwapped (wv yX6_putSwapped cX6_putSwapped 7 (some .int)) ({ frames := 1, cells := 0, slots := 0, locals := 23 }) (va_Pc [.ref (ad (182 + 9 * a0))] (cwU D A ad cA tb0 tb1 st)) (cwQi D A ad cA tb0 tb1 r st') 0 0 A := by
  refine Met.ofW (cc := cX6_putSwapped) (maxL := 7) (ret := some .int) (by decide) rfl ?_
  intro p e s m args below meth c s₁ B hml hv
  obtain ⟨rfl, hP, hK⟩ := hv
  have hx := B.exec
  have hb := B.bytes
  have hr := B.returns
  have hts := atoms_spec (ws := wv yX6_putSwapped cX6_putSwapped 7 (some .int)) B.pre
  have hown : s.vm.findClass RX6 = some m.cls := findClass_of_methodNamed B.named
  have hlocks := B.notSynchronized
  have hO : cwO D A ad cA s st s.heap [] := ⟨hP, va_S.rf⟩
  have hl := lv_entry ([.ref (ad (182 + 9 * a0))]) (n := 7) (Nat.le_of_ble_eq_true rfl)
  rw [lg_entry_eq]
  generalize (lg_sl ([.ref (ad (182 + 9 * a0))]) ++ List.replicate (7 - (lg_sl ([.ref (ad (182 + 9 * a0))])).length) Slot.unset).toArray = ls at hl ⊢
  have hl : lv_has ls 7 [(0, .ref (ad (182 + 9 * a0)))] := hl
  have _h0 := hO
  have hgw := fun (w : Cond) (h : w ∈ gwW) => hts w (List.mem_cons_of_mem _ h)
  unfold j_Walk_putSwapped at h
  refine lv_aload_n hx hb dX6_putSwapped_0 rfl (lv_at hl 0 rfl) ?_
  refine lv_iconst (v := 0) hx hb dX6_putSwapped_1 (by decide) ?_
  obtain ⟨r1, st2, h3, h⟩ := bR_some h
  refine cw_calli (va_runV (As := [.int ((0 : Int32))]) (rest := []) ⟨hx, hb, hml, hown, hts⟩ (c_Pile_tookKind l D A ad cA tb0 tb1 a0 ha0 ((0 : Int32)) st r1 st2 h3) (cwV 1 hts (gw_V w_46dcffd2 w_5c9fe01c w_ceab1f00 w_76c797a4 w_72af167e) rfl rfl rfl (by decide +kernel) ⟨Nat.le_of_ble_eq_true rfl, Nat.le_of_ble_eq_true rfl⟩) (cw_preV (k := 182 + 9 * a0) (ci := 4) hK hO rfl (by have := ha0; omega) (cc_Pile ha0)) rfl rfl hl.1 rfl (lv_room (Nat.le_of_ble_eq_true rfl)) dX6_putSwapped_2 ⟨Nat.zero_le _, Nat.zero_le _⟩) hO (fun H locs hO => ?_)
  refine lv_istore_n (lv' := [(1, .int r1), (0, .ref (ad (182 + 9 * a0)))]) hx hb dX6_putSwapped_5 rfl hl (by decide) rfl (fun ls hl => ?_)
  refine lv_aload_n hx hb dX6_putSwapped_6 rfl (lv_at hl 1 rfl) ?_
  refine lv_iconst (v := 0) hx hb dX6_putSwapped_7 (by decide) ?_
  obtain ⟨r4, st5, h6, h⟩ := bR_some h
  refine cw_calll (va_runV (As := [.int ((0 : Int32))]) (rest := []) ⟨hx, hb, hml, hown, hts⟩ (c_Pile_took l D A ad cA tb0 tb1 a0 ha0 ((0 : Int32)) st2 r4 st5 h6) (cwV 1 hts (gw_V w_93fed6db w_e50f7684 w_26b160a3 w_76c797a4 w_c905c078) rfl rfl rfl (by decide +kernel) ⟨Nat.le_of_ble_eq_true rfl, Nat.le_of_ble_eq_true rfl⟩) (cw_preV (k := 182 + 9 * a0) (ci := 4) hK hO rfl (by have := ha0; omega) (cc_Pile ha0)) rfl rfl hl.1 rfl (lv_room (Nat.le_of_ble_eq_true rfl)) dX6_putSwapped_8 ⟨Nat.zero_le _, Nat.zero_le _⟩) hO (fun H locs hO => ?_)
  refine lv_lstore_n (lv' := [(2, .long r4), (1, .int r1), (0, .ref (ad (182 + 9 * a0)))]) hx hb dX6_putSwapped_11 rfl hl (by decide) rfl (fun ls hl => ?_)
  refine lv_aload_n hx hb dX6_putSwapped_12 rfl (lv_at hl 2 rfl) ?_
  refine lv_iconst (v := 1) hx hb dX6_putSwapped_13 (by decide) ?_
  obtain ⟨r7, st8, h9, h⟩ := bR_some h
  refine cw_calli (va_runV (As := [.int ((1 : Int32))]) (rest := []) ⟨hx, hb, hml, hown, hts⟩ (c_Pile_tookKind l D A ad cA tb0 tb1 a0 ha0 ((1 : Int32)) st5 r7 st8 h9) (cwV 1 hts (gw_V w_46dcffd2 w_5c9fe01c w_ceab1f00 w_76c797a4 w_72af167e) rfl rfl rfl (by decide +kernel) ⟨Nat.le_of_ble_eq_true rfl, Nat.le_of_ble_eq_true rfl⟩) (cw_preV (k := 182 + 9 * a0) (ci := 4) hK hO rfl (by have := ha0; omega) (cc_Pile ha0)) rfl rfl hl.1 rfl (lv_room (Nat.le_of_ble_eq_true rfl)) dX6_putSwapped_14 ⟨Nat.zero_le _, Nat.zero_le _⟩) hO (fun H locs hO => ?_)
  refine lv_istore (lv' := [(4, .int r7), (2, .long r4), (1, .int r1), (0, .ref (ad (182 + 9 * a0)))]) hx hb dX6_putSwapped_17 hl (by decide) rfl (fun ls hl => ?_)
  refine lv_aload_n hx hb dX6_putSwapped_19 rfl (lv_at hl 3 rfl) ?_
  refine lv_iconst (v := 1) hx hb dX6_putSwapped_20 (by decide) ?_
  obtain ⟨r10, st11, h12, h⟩ := bR_some h
  refine cw_calll (va_runV (As := [.int ((1 : Int32))]) (rest := []) ⟨hx, hb, hml, hown, hts⟩ (c_Pile_took l D A ad cA tb0 tb1 a0 ha0 ((1 : Int32)) st8 r10 st11 h12) (cwV 1 hts (gw_V w_93fed6db w_e50f7684 w_26b160a3 w_76c797a4 w_c905c078) rfl rfl rfl (by decide +kernel) ⟨Nat.le_of_ble_eq_true rfl, Nat.le_of_ble_eq_true rfl⟩) (cw_preV (k := 182 + 9 * a0) (ci := 4) hK hO rfl (by have := ha0; omega) (cc_Pile ha0)) rfl rfl hl.1 rfl (lv_room (Nat.le_of_ble_eq_true rfl)) dX6_putSwapped_21 ⟨Nat.zero_le _, Nat.zero_le _⟩) hO (fun H locs hO => ?_)
  refine lv_lstore (lv' := [(5, .long r10), (4, .int r7), (2, .long r4), (1, .int r1), (0, .ref (ad (182 + 9 * a0)))]) hx hb dX6_putSwapped_24 hl (by decide) rfl (fun ls hl => ?_)
  refine lv_aload_n hx hb dX6_putSwapped_26 rfl (lv_at hl 4 rfl) ?_
  refine lv_iload_n hx hb dX6_putSwapped_27 rfl (lv_at hl 3 rfl) ?_
  refine lv_lload_n hx hb dX6_putSwapped_28 rfl (lv_at hl 2 rfl) ?_
  obtain ⟨r13, st14, h15, h⟩ := bR_some h
  refine cw_calli (va_runV (As := [.int r1, .long r4]) (rest := []) ⟨hx, hb, hml, hown, hts⟩ (c_Pile_put l D A ad cA tb0 tb1 a0 ha0 r1 r4 st11 r13 st14 h15) (cwV 2 hts (gw_V w_085b0eb2 w_d8d501aa w_46b57ea6 w_76c797a4 w_54242bcb) rfl rfl rfl (by decide +kernel) ⟨Nat.le_of_ble_eq_true rfl, Nat.le_of_ble_eq_true rfl⟩) (cw_preV (k := 182 + 9 * a0) (ci := 4) hK hO rfl (by have := ha0; omega) (cc_Pile ha0)) rfl rfl hl.1 rfl (lv_room (Nat.le_of_ble_eq_true rfl)) dX6_putSwapped_29 ⟨Nat.zero_le _, Nat.zero_le _⟩) hO (fun H locs hO => ?_)
  refine lv_pop hx hb dX6_putSwapped_32 rfl ?_
  refine lv_aload_n hx hb dX6_putSwapped_33 rfl (lv_at hl 4 rfl) ?_
  refine lv_iload hx hb dX6_putSwapped_34 (lv_at hl 1 rfl) ?_
  refine lv_lload hx hb dX6_putSwapped_36 (lv_at hl 0 rfl) ?_
  obtain ⟨r16, st17, h18, h⟩ := bR_some h
  refine cw_calli (va_runV (As := [.int r7, .long r10]) (rest := []) ⟨hx, hb, hml, hown, hts⟩ (c_Pile_put l D A ad cA tb0 tb1 a0 ha0 r7 r10 st14 r16 st17 h18) (cwV 2 hts (gw_V w_085b0eb2 w_d8d501aa w_46b57ea6 w_76c797a4 w_54242bcb) rfl rfl rfl (by decide +kernel) ⟨Nat.le_of_ble_eq_true rfl, Nat.le_of_ble_eq_true rfl⟩) (cw_preV (k := 182 + 9 * a0) (ci := 4) hK hO rfl (by have := ha0; omega) (cc_Pile ha0)) rfl rfl hl.1 rfl (lv_room (Nat.le_of_ble_eq_true rfl)) dX6_putSwapped_38 ⟨Nat.zero_le _, Nat.zero_le _⟩) hO (fun H locs hO => ?_)
  obtain ⟨rfl, rfl⟩ := ret2 h; exact cw_iret hx hb hr hlocks hO dX6_putSwapped_41
-- Walk calculate
def j_Walk_calculate (a0 : Nat) (a1 : Int32) (st : CwS) : Option (Int32 × CwS) :=
  bR (j_Pile_tookNumber a0 ((0 : Int32)) st) fun r1 st2 =>
  if r1 = ((0 : Int32)) then
    some ((4 : Int32), st2)
  else
    bR (j_Pile_tookNumber a0 ((1 : Int32)) st2) fun r5 st6 =>
    if r5 = ((0 : Int32)) then
      some ((4 : Int32), st6)
    else
      bR (j_Pile_took a0 ((0 : Int32)) st6) fun r9 st10 =>
      bR (j_Pile_took a0 ((1 : Int32)) st10) fun r12 st13 =>
      if a1 = (6 : Int32) then
        bR (j_CW_sumFits r12 r9 st13) fun r15 st16 =>
        if r15 = ((0 : Int32)) then
          some ((6 : Int32), st16)
        else
          bR (j_Pile_putNumber a0 (r12 + r9) st16) fun r19 st20 =>
          some (r19, st20)
      else
      if a1 = (7 : Int32) then
        bR (j_CW_differenceFits r12 r9 st13) fun r22 st23 =>
        if r22 = ((0 : Int32)) then
          some ((6 : Int32), st23)
        else
          bR (j_Pile_putNumber a0 (r12 - r9) st23) fun r26 st27 =>
          some (r26, st27)
      else
      if a1 = (8 : Int32) then
        bR (j_CW_productFits r12 r9 st13) fun r29 st30 =>
        if r29 = ((0 : Int32)) then
          some ((6 : Int32), st30)
        else
          bR (j_Pile_putNumber a0 (r12 * r9) st30) fun r33 st34 =>
          some (r33, st34)
      else
      if a1 = (9 : Int32) then
        if (lg_cmp r9 ((0 : Int64))) = ((0 : Int32)) then
          some ((1 : Int32), st13)
        else
          ck (!(decide (r9 = 0))) <|
          bR (j_Pile_putNumber a0 (r12 / r9) st13) fun r38 st39 =>
          some (r38, st39)
      else
      if a1 = (10 : Int32) then
        if (lg_cmp r9 ((0 : Int64))) = ((0 : Int32)) then
          some ((1 : Int32), st13)
        else
          ck (!(decide (r9 = 0))) <|
          bR (j_Pile_putNumber a0 (r12 - r12 / r9 * r9) st13) fun r43 st44 =>
          some (r43, st44)
      else
      if a1 = (11 : Int32) then
        if ((0 : Int32)) ≤ (lg_cmp r12 r9) then
          bR (j_Pile_putNumber a0 ((0 : Int64)) st13) fun r47 st48 =>
          some (r47, st48)
        else
          bR (j_Pile_putNumber a0 ((1 : Int64)) st13) fun r50 st51 =>
          some (r50, st51)
      else
      if a1 = (12 : Int32) then
        if (lg_cmp r12 r9) = ((0 : Int32)) then
          bR (j_Pile_putNumber a0 ((1 : Int64)) st13) fun r57 st58 =>
          some (r57, st58)
        else
          bR (j_Pile_putNumber a0 ((0 : Int64)) st13) fun r54 st55 =>
          some (r54, st55)
      else
        some ((12 : Int32), st13)
set_option maxHeartbeats 4000000 in
set_option maxRecDepth 100000 in
theorem c_Walk_calculate (l : Launch) (D : va_G) (A : Nat → Prop) (ad : Nat → Nat) (cA : Nat → ClassId) (tb0 tb1 : Nat) (a0 : Nat) (ha0 : a0 < 10) (a1 : Int32) (st : CwS) (r : Int32) (st' : CwS) (h : j_Walk_calculate a0 a1 st = some (r, st')) : Met l yX6_calculate (wv yX6_calculate cX6_calculate 6 (some .int)) ({ frames := 2, cells := 0, slots := 0, locals := 45 }) (va_Pc [.ref (ad (182 + 9 * a0)), .int a1] (cwU D A ad cA tb0 tb1 st)) (cwQi D A ad cA tb0 tb1 r st') 0 0 A := by
  refine Met.ofW (cc := cX6_calculate) (maxL := 6) (ret := some .int) (by decide) rfl ?_
  intro p e s m args below meth c s₁ B hml hv
  obtain ⟨rfl, hP, hK⟩ := hv
  have hx := B.exec
  have hb := B.bytes
  have hr := B.returns
  have hts := atoms_spec (ws := wv yX6_calculate cX6_calculate 6 (some .int)) B.pre
  have hown : s.vm.findClass RX6 = some m.cls := findClass_of_methodNamed B.named
  have hlocks := B.notSynchronized
  have hO : cwO D A ad cA s st s.heap [] := ⟨hP, va_S.rf⟩
  have hl := lv_entry ([.ref (ad (182 + 9 * a0)), .int a1]) (n := 6) (Nat.le_of_ble_eq_true rfl)
  rw [lg_entry_eq]
  generalize (lg_sl ([.ref (ad (182 + 9 * a0)), .int a1]) ++ List.replicate (6 - (lg_sl ([.ref (ad (182 + 9 * a0)), .int a1])).length) Slot.unset).toArray = ls at hl ⊢
  have hl : lv_has ls 6 [(0, .ref (ad (182 + 9 * a0))), (1, .int a1)] := hl
  have _h0 := hO
  have hgw := fun (w : Cond) (h : w ∈ gwW) => hts w (List.mem_cons_of_mem _ h)
  unfold j_Walk_calculate at h
  refine lv_aload_n hx hb dX6_calculate_0 rfl (lv_at hl 0 rfl) ?_
  refine lv_iconst (v := 0) hx hb dX6_calculate_1 (by decide) ?_
  obtain ⟨r1, st2, h3, h⟩ := bR_some h
  refine cw_calli (va_runV (As := [.int ((0 : Int32))]) (rest := []) ⟨hx, hb, hml, hown, hts⟩ (c_Pile_tookNumber l D A ad cA tb0 tb1 a0 ha0 ((0 : Int32)) st r1 st2 h3) (cwV 1 hts (gw_V w_1588eb10 w_710a0455 w_eea10879 w_76c797a4 w_f9f5f760) rfl rfl rfl (by decide +kernel) ⟨Nat.le_of_ble_eq_true rfl, Nat.le_of_ble_eq_true rfl⟩) (cw_preV (k := 182 + 9 * a0) (ci := 4) hK hO rfl (by have := ha0; omega) (cc_Pile ha0)) rfl rfl hl.1 rfl (lv_room (Nat.le_of_ble_eq_true rfl)) dX6_calculate_2 ⟨Nat.zero_le _, Nat.zero_le _⟩) hO (fun H locs hO => ?_)
  refine lv_if_eq (tgt := 16) hx hb dX6_calculate_5 (by decide) (fun c4 => ?_) (fun c4 => ?_)
  · have h := ite_t c4 h
    refine lv_iconst (v := 4) hx hb dX6_calculate_16 (by decide) ?_
    obtain ⟨rfl, rfl⟩ := ret2 h; exact cw_iret hx hb hr hlocks hO dX6_calculate_17
  · have h := ite_f c4 h
    refine lv_aload_n hx hb dX6_calculate_8 rfl (lv_at hl 0 rfl) ?_
    refine lv_iconst (v := 1) hx hb dX6_calculate_9 (by decide) ?_
    obtain ⟨r5, st6, h7, h⟩ := bR_some h
    refine cw_calli (va_runV (As := [.int ((1 : Int32))]) (rest := []) ⟨hx, hb, hml, hown, hts⟩ (c_Pile_tookNumber l D A ad cA tb0 tb1 a0 ha0 ((1 : Int32)) st2 r5 st6 h7) (cwV 1 hts (gw_V w_1588eb10 w_710a0455 w_eea10879 w_76c797a4 w_f9f5f760) rfl rfl rfl (by decide +kernel) ⟨Nat.le_of_ble_eq_true rfl, Nat.le_of_ble_eq_true rfl⟩) (cw_preV (k := 182 + 9 * a0) (ci := 4) hK hO rfl (by have := ha0; omega) (cc_Pile ha0)) rfl rfl hl.1 rfl (lv_room (Nat.le_of_ble_eq_true rfl)) dX6_calculate_10 ⟨Nat.zero_le _, Nat.zero_le _⟩) hO (fun H locs hO => ?_)
    refine lv_if_ne (tgt := 18) hx hb dX6_calculate_13 (by decide) (fun c8 => ?_) (fun c8 => ?_)
    · have h := ite_f c8 h
      refine lv_aload_n hx hb dX6_calculate_18 rfl (lv_at hl 0 rfl) ?_
      refine lv_iconst (v := 0) hx hb dX6_calculate_19 (by decide) ?_
      obtain ⟨r9, st10, h11, h⟩ := bR_some h
      refine cw_calll (va_runV (As := [.int ((0 : Int32))]) (rest := []) ⟨hx, hb, hml, hown, hts⟩ (c_Pile_took l D A ad cA tb0 tb1 a0 ha0 ((0 : Int32)) st6 r9 st10 h11) (cwV 1 hts (gw_V w_93fed6db w_e50f7684 w_26b160a3 w_76c797a4 w_c905c078) rfl rfl rfl (by decide +kernel) ⟨Nat.le_of_ble_eq_true rfl, Nat.le_of_ble_eq_true rfl⟩) (cw_preV (k := 182 + 9 * a0) (ci := 4) hK hO rfl (by have := ha0; omega) (cc_Pile ha0)) rfl rfl hl.1 rfl (lv_room (Nat.le_of_ble_eq_true rfl)) dX6_calculate_20 ⟨Nat.zero_le _, Nat.zero_le _⟩) hO (fun H locs hO => ?_)
      refine lv_lstore_n (lv' := [(2, .long r9), (0, .ref (ad (182 + 9 * a0))), (1, .int a1)]) hx hb dX6_calculate_23 rfl hl (by decide) rfl (fun ls hl => ?_)
      refine lv_aload_n hx hb dX6_calculate_24 rfl (lv_at hl 1 rfl) ?_
      refine lv_iconst (v := 1) hx hb dX6_calculate_25 (by decide) ?_
      obtain ⟨r12, st13, h14, h⟩ := bR_some h
      refine cw_calll (va_runV (As := [.int ((1 : Int32))]) (rest := []) ⟨hx, hb, hml, hown, hts⟩ (c_Pile_took l D A ad cA tb0 tb1 a0 ha0 ((1 : Int32)) st10 r12 st13 h14) (cwV 1 hts (gw_V w_93fed6db w_e50f7684 w_26b160a3 w_76c797a4 w_c905c078) rfl rfl rfl (by decide +kernel) ⟨Nat.le_of_ble_eq_true rfl, Nat.le_of_ble_eq_true rfl⟩) (cw_preV (k := 182 + 9 * a0) (ci := 4) hK hO rfl (by have := ha0; omega) (cc_Pile ha0)) rfl rfl hl.1 rfl (lv_room (Nat.le_of_ble_eq_true rfl)) dX6_calculate_26 ⟨Nat.zero_le _, Nat.zero_le _⟩) hO (fun H locs hO => ?_)
      refine lv_lstore (lv' := [(4, .long r12), (2, .long r9), (0, .ref (ad (182 + 9 * a0))), (1, .int a1)]) hx hb dX6_calculate_29 hl (by decide) rfl (fun ls hl => ?_)
      refine lv_iload_n hx hb dX6_calculate_31 rfl (lv_at hl 3 rfl) ?_
      by_cases c60 : a1 = (6 : Int32)
      · have h := ite_t c60 h
        refine lv_tableIn (tgt := 76) hx hb dX6_calculate_32 (by rw [c60]; decide) (by rw [c60]; decide) (by rw [c60]; rfl) (by decide) ?_
        refine lv_lload hx hb dX6_calculate_76 (lv_at hl 0 rfl) ?_
        refine lv_lload_n hx hb dX6_calculate_78 rfl (lv_at hl 1 rfl) ?_
        obtain ⟨r15, st16, h17, h⟩ := bR_some h
        refine cw_calli (va_runSN (As := [.long r12, .long r9]) (rest := []) ⟨hx, hb, hml, hown, hts⟩ (c_CW_sumFits l D A ad cA tb0 tb1 r12 r9 st13 r15 st16 h17) ⟨va_cnB 2 hts (gw_N w_4da7ad3a) rfl rfl rfl hK.2.2.2.2.1 (hgw _ w_0fc29077) (by decide +kernel) ⟨Nat.le_of_ble_eq_true rfl, Nat.le_of_ble_eq_true rfl⟩, hgw _ w_0bad5949, trivial⟩ (cw_preS hK hO) rfl rfl hl.1 rfl (lv_room (Nat.le_of_ble_eq_true rfl)) dX6_calculate_79 ⟨Nat.zero_le _, Nat.zero_le _⟩) hO (fun H locs hO => ?_)
        refine lv_if_eq (tgt := 96) hx hb dX6_calculate_82 (by decide) (fun c18 => ?_) (fun c18 => ?_)
        · have h := ite_t c18 h
          refine lv_bipush (v := 6) hx hb dX6_calculate_96 (by decide) ?_
          obtain ⟨rfl, rfl⟩ := ret2 h; exact cw_iret hx hb hr hlocks hO dX6_calculate_98
        · have h := ite_f c18 h
          refine lv_aload_n hx hb dX6_calculate_85 rfl (lv_at hl 2 rfl) ?_
          refine lv_lload hx hb dX6_calculate_86 (lv_at hl 0 rfl) ?_
          refine lv_lload_n hx hb dX6_calculate_88 rfl (lv_at hl 1 rfl) ?_
          refine lv_ladd hx hb dX6_calculate_89 ?_
          obtain ⟨r19, st20, h21, h⟩ := bR_some h
          refine cw_calli (va_runV (As := [.long (r12 + r9)]) (rest := []) ⟨hx, hb, hml, hown, hts⟩ (c_Pile_putNumber l D A ad cA tb0 tb1 a0 ha0 (r12 + r9) st16 r19 st20 h21) (cwV 1 hts (gw_V w_8fddbe94 w_34c9ad22 w_9e5e849e w_76c797a4 w_03086df0) rfl rfl rfl (by decide +kernel) ⟨Nat.le_of_ble_eq_true rfl, Nat.le_of_ble_eq_true rfl⟩) (cw_preV (k := 182 + 9 * a0) (ci := 4) hK hO rfl (by have := ha0; omega) (cc_Pile ha0)) rfl rfl hl.1 rfl (lv_room (Nat.le_of_ble_eq_true rfl)) dX6_calculate_90 ⟨Nat.zero_le _, Nat.zero_le _⟩) hO (fun H locs hO => ?_)
          refine lv_goto (tgt := 98) hx hb dX6_calculate_93 (by decide) ?_
          obtain ⟨rfl, rfl⟩ := ret2 h; exact cw_iret hx hb hr hlocks hO dX6_calculate_98
      have h := ite_f c60 h
      by_cases c61 : a1 = (7 : Int32)
      · have h := ite_t c61 h
        refine lv_tableIn (tgt := 99) hx hb dX6_calculate_32 (by rw [c61]; decide) (by rw [c61]; decide) (by rw [c61]; rfl) (by decide) ?_
        refine lv_lload hx hb dX6_calculate_99 (lv_at hl 0 rfl) ?_
        refine lv_lload_n hx hb dX6_calculate_101 rfl (lv_at hl 1 rfl) ?_
        obtain ⟨r22, st23, h24, h⟩ := bR_some h
        refine cw_calli (va_runSN (As := [.long r12, .long r9]) (rest := []) ⟨hx, hb, hml, hown, hts⟩ (c_CW_differenceFits l D A ad cA tb0 tb1 r12 r9 st13 r22 st23 h24) ⟨va_cnB 2 hts (gw_N w_ef9c150f) rfl rfl rfl hK.2.2.2.2.2.1 (hgw _ w_0fc29077) (by decide +kernel) ⟨Nat.le_of_ble_eq_true rfl, Nat.le_of_ble_eq_true rfl⟩, hgw _ w_21831aed, trivial⟩ (cw_preS hK hO) rfl rfl hl.1 rfl (lv_room (Nat.le_of_ble_eq_true rfl)) dX6_calculate_102 ⟨Nat.zero_le _, Nat.zero_le _⟩) hO (fun H locs hO => ?_)
        refine lv_if_eq (tgt := 119) hx hb dX6_calculate_105 (by decide) (fun c25 => ?_) (fun c25 => ?_)
        · have h := ite_t c25 h
          refine lv_bipush (v := 6) hx hb dX6_calculate_119 (by decide) ?_
          obtain ⟨rfl, rfl⟩ := ret2 h; exact cw_iret hx hb hr hlocks hO dX6_calculate_121
        · have h := ite_f c25 h
          refine lv_aload_n hx hb dX6_calculate_108 rfl (lv_at hl 2 rfl) ?_
          refine lv_lload hx hb dX6_calculate_109 (lv_at hl 0 rfl) ?_
          refine lv_lload_n hx hb dX6_calculate_111 rfl (lv_at hl 1 rfl) ?_
          refine lv_lsub hx hb dX6_calculate_112 ?_
          obtain ⟨r26, st27, h28, h⟩ := bR_some h
          refine cw_calli (va_runV (As := [.long (r12 - r9)]) (rest := []) ⟨hx, hb, hml, hown, hts⟩ (c_Pile_putNumber l D A ad cA tb0 tb1 a0 ha0 (r12 - r9) st23 r26 st27 h28) (cwV 1 hts (gw_V w_8fddbe94 w_34c9ad22 w_9e5e849e w_76c797a4 w_03086df0) rfl rfl rfl (by decide +kernel) ⟨Nat.le_of_ble_eq_true rfl, Nat.le_of_ble_eq_true rfl⟩) (cw_preV (k := 182 + 9 * a0) (ci := 4) hK hO rfl (by have := ha0; omega) (cc_Pile ha0)) rfl rfl hl.1 rfl (lv_room (Nat.le_of_ble_eq_true rfl)) dX6_calculate_113 ⟨Nat.zero_le _, Nat.zero_le _⟩) hO (fun H locs hO => ?_)
          refine lv_goto (tgt := 121) hx hb dX6_calculate_116 (by decide) ?_
          obtain ⟨rfl, rfl⟩ := ret2 h; exact cw_iret hx hb hr hlocks hO dX6_calculate_121
      have h := ite_f c61 h
      by_cases c62 : a1 = (8 : Int32)
      · have h := ite_t c62 h
        refine lv_tableIn (tgt := 122) hx hb dX6_calculate_32 (by rw [c62]; decide) (by rw [c62]; decide) (by rw [c62]; rfl) (by decide) ?_
        refine lv_lload hx hb dX6_calculate_122 (lv_at hl 0 rfl) ?_
        refine lv_lload_n hx hb dX6_calculate_124 rfl (lv_at hl 1 rfl) ?_
        obtain ⟨r29, st30, h31, h⟩ := bR_some h
        refine cw_calli (va_runSN (As := [.long r12, .long r9]) (rest := []) ⟨hx, hb, hml, hown, hts⟩ (c_CW_productFits l D A ad cA tb0 tb1 r12 r9 st13 r29 st30 h31) ⟨va_cnB 2 hts (gw_N w_d70717ca) rfl rfl rfl hK.2.2.2.2.2.2.1 (hgw _ w_0fc29077) (by decide +kernel) ⟨Nat.le_of_ble_eq_true rfl, Nat.le_of_ble_eq_true rfl⟩, hgw _ w_3fd43fcb, trivial⟩ (cw_preS hK hO) rfl rfl hl.1 rfl (lv_room (Nat.le_of_ble_eq_true rfl)) dX6_calculate_125 ⟨Nat.zero_le _, Nat.zero_le _⟩) hO (fun H locs hO => ?_)
        refine lv_if_eq (tgt := 142) hx hb dX6_calculate_128 (by decide) (fun c32 => ?_) (fun c32 => ?_)
        · have h := ite_t c32 h
          refine lv_bipush (v := 6) hx hb dX6_calculate_142 (by decide) ?_
          obtain ⟨rfl, rfl⟩ := ret2 h; exact cw_iret hx hb hr hlocks hO dX6_calculate_144
        · have h := ite_f c32 h
          refine lv_aload_n hx hb dX6_calculate_131 rfl (lv_at hl 2 rfl) ?_
          refine lv_lload hx hb dX6_calculate_132 (lv_at hl 0 rfl) ?_
          refine lv_lload_n hx hb dX6_calculate_134 rfl (lv_at hl 1 rfl) ?_
          refine lv_lmul hx hb dX6_calculate_135 ?_
          obtain ⟨r33, st34, h35, h⟩ := bR_some h
          refine cw_calli (va_runV (As := [.long (r12 * r9)]) (rest := []) ⟨hx, hb, hml, hown, hts⟩ (c_Pile_putNumber l D A ad cA tb0 tb1 a0 ha0 (r12 * r9) st30 r33 st34 h35) (cwV 1 hts (gw_V w_8fddbe94 w_34c9ad22 w_9e5e849e w_76c797a4 w_03086df0) rfl rfl rfl (by decide +kernel) ⟨Nat.le_of_ble_eq_true rfl, Nat.le_of_ble_eq_true rfl⟩) (cw_preV (k := 182 + 9 * a0) (ci := 4) hK hO rfl (by have := ha0; omega) (cc_Pile ha0)) rfl rfl hl.1 rfl (lv_room (Nat.le_of_ble_eq_true rfl)) dX6_calculate_136 ⟨Nat.zero_le _, Nat.zero_le _⟩) hO (fun H locs hO => ?_)
          refine lv_goto (tgt := 144) hx hb dX6_calculate_139 (by decide) ?_
          obtain ⟨rfl, rfl⟩ := ret2 h; exact cw_iret hx hb hr hlocks hO dX6_calculate_144
      have h := ite_f c62 h
      by_cases c63 : a1 = (9 : Int32)
      · have h := ite_t c63 h
        refine lv_tableIn (tgt := 145) hx hb dX6_calculate_32 (by rw [c63]; decide) (by rw [c63]; decide) (by rw [c63]; rfl) (by decide) ?_
        refine lv_lload_n hx hb dX6_calculate_145 rfl (lv_at hl 1 rfl) ?_
        refine lv_lconst (v := 0) hx hb dX6_calculate_146 (by decide) ?_
        refine W.lcmp hx hb dX6_calculate_147 ?_
        refine lv_if_eq (tgt := 162) hx hb dX6_calculate_148 (by decide) (fun c36 => ?_) (fun c36 => ?_)
        · have h := ite_t c36 h
          refine lv_iconst (v := 1) hx hb dX6_calculate_162 (by decide) ?_
          obtain ⟨rfl, rfl⟩ := ret2 h; exact cw_iret hx hb hr hlocks hO dX6_calculate_163
        · have h := ite_f c36 h
          refine lv_aload_n hx hb dX6_calculate_151 rfl (lv_at hl 2 rfl) ?_
          refine lv_lload hx hb dX6_calculate_152 (lv_at hl 0 rfl) ?_
          refine lv_lload_n hx hb dX6_calculate_154 rfl (lv_at hl 1 rfl) ?_
          obtain ⟨hc37, h⟩ := ck_some h
          refine lv_ldiv hx hb dX6_calculate_155 (ck_ne hc37) ?_
          obtain ⟨r38, st39, h40, h⟩ := bR_some h
          refine cw_calli (va_runV (As := [.long (r12 / r9)]) (rest := []) ⟨hx, hb, hml, hown, hts⟩ (c_Pile_putNumber l D A ad cA tb0 tb1 a0 ha0 (r12 / r9) st13 r38 st39 h40) (cwV 1 hts (gw_V w_8fddbe94 w_34c9ad22 w_9e5e849e w_76c797a4 w_03086df0) rfl rfl rfl (by decide +kernel) ⟨Nat.le_of_ble_eq_true rfl, Nat.le_of_ble_eq_true rfl⟩) (cw_preV (k := 182 + 9 * a0) (ci := 4) hK hO rfl (by have := ha0; omega) (cc_Pile ha0)) rfl rfl hl.1 rfl (lv_room (Nat.le_of_ble_eq_true rfl)) dX6_calculate_156 ⟨Nat.zero_le _, Nat.zero_le _⟩) hO (fun H locs hO => ?_)
          refine lv_goto (tgt := 163) hx hb dX6_calculate_159 (by decide) ?_
          obtain ⟨rfl, rfl⟩ := ret2 h; exact cw_iret hx hb hr hlocks hO dX6_calculate_163
      have h := ite_f c63 h
      by_cases c64 : a1 = (10 : Int32)
      · have h := ite_t c64 h
        refine lv_tableIn (tgt := 164) hx hb dX6_calculate_32 (by rw [c64]; decide) (by rw [c64]; decide) (by rw [c64]; rfl) (by decide) ?_
        refine lv_lload_n hx hb dX6_calculate_164 rfl (lv_at hl 1 rfl) ?_
        refine lv_lconst (v := 0) hx hb dX6_calculate_165 (by decide) ?_
        refine W.lcmp hx hb dX6_calculate_166 ?_
        refine lv_if_eq (tgt := 181) hx hb dX6_calculate_167 (by decide) (fun c41 => ?_) (fun c41 => ?_)
        · have h := ite_t c41 h
          refine lv_iconst (v := 1) hx hb dX6_calculate_181 (by decide) ?_
          obtain ⟨rfl, rfl⟩ := ret2 h; exact cw_iret hx hb hr hlocks hO dX6_calculate_182
        · have h := ite_f c41 h
          refine lv_aload_n hx hb dX6_calculate_170 rfl (lv_at hl 2 rfl) ?_
          refine lv_lload hx hb dX6_calculate_171 (lv_at hl 0 rfl) ?_
          refine lv_lload_n hx hb dX6_calculate_173 rfl (lv_at hl 1 rfl) ?_
          obtain ⟨hc42, h⟩ := ck_some h
          refine lv_lrem hx hb dX6_calculate_174 (ck_ne hc42) ?_
          obtain ⟨r43, st44, h45, h⟩ := bR_some h
          refine cw_calli (va_runV (As := [.long (r12 - r12 / r9 * r9)]) (rest := []) ⟨hx, hb, hml, hown, hts⟩ (c_Pile_putNumber l D A ad cA tb0 tb1 a0 ha0 (r12 - r12 / r9 * r9) st13 r43 st44 h45) (cwV 1 hts (gw_V w_8fddbe94 w_34c9ad22 w_9e5e849e w_76c797a4 w_03086df0) rfl rfl rfl (by decide +kernel) ⟨Nat.le_of_ble_eq_true rfl, Nat.le_of_ble_eq_true rfl⟩) (cw_preV (k := 182 + 9 * a0) (ci := 4) hK hO rfl (by have := ha0; omega) (cc_Pile ha0)) rfl rfl hl.1 rfl (lv_room (Nat.le_of_ble_eq_true rfl)) dX6_calculate_175 ⟨Nat.zero_le _, Nat.zero_le _⟩) hO (fun H locs hO => ?_)
          refine lv_goto (tgt := 182) hx hb dX6_calculate_178 (by decide) ?_
          obtain ⟨rfl, rfl⟩ := ret2 h; exact cw_iret hx hb hr hlocks hO dX6_calculate_182
      have h := ite_f c64 h
      by_cases c65 : a1 = (11 : Int32)
      · have h := ite_t c65 h
        refine lv_tableIn (tgt := 183) hx hb dX6_calculate_32 (by rw [c65]; decide) (by rw [c65]; decide) (by rw [c65]; rfl) (by decide) ?_
        refine lv_aload_n hx hb dX6_calculate_183 rfl (lv_at hl 2 rfl) ?_
        refine lv_lload hx hb dX6_calculate_184 (lv_at hl 0 rfl) ?_
        refine lv_lload_n hx hb dX6_calculate_186 rfl (lv_at hl 1 rfl) ?_
        refine W.lcmp hx hb dX6_calculate_187 ?_
        refine lv_if_ge (tgt := 195) hx hb dX6_calculate_188 (by decide) (fun c46 => ?_) (fun c46 => ?_)
        · have h := ite_t c46 h
          refine lv_lconst (v := 0) hx hb dX6_calculate_195 (by decide) ?_
          obtain ⟨r47, st48, h49, h⟩ := bR_some h
          refine cw_calli (va_runV (As := [.long ((0 : Int64))]) (rest := []) ⟨hx, hb, hml, hown, hts⟩ (c_Pile_putNumber l D A ad cA tb0 tb1 a0 ha0 ((0 : Int64)) st13 r47 st48 h49) (cwV 1 hts (gw_V w_8fddbe94 w_34c9ad22 w_9e5e849e w_76c797a4 w_03086df0) rfl rfl rfl (by decide +kernel) ⟨Nat.le_of_ble_eq_true rfl, Nat.le_of_ble_eq_true rfl⟩) (cw_preV (k := 182 + 9 * a0) (ci := 4) hK hO rfl (by have := ha0; omega) (cc_Pile ha0)) rfl rfl hl.1 rfl (lv_room (Nat.le_of_ble_eq_true rfl)) dX6_calculate_196 ⟨Nat.zero_le _, Nat.zero_le _⟩) hO (fun H locs hO => ?_)
          obtain ⟨rfl, rfl⟩ := ret2 h; exact cw_iret hx hb hr hlocks hO dX6_calculate_199
        · have h := ite_f c46 h
          refine lv_lconst (v := 1) hx hb dX6_calculate_191 (by decide) ?_
          refine lv_goto (tgt := 196) hx hb dX6_calculate_192 (by decide) ?_
          obtain ⟨r50, st51, h52, h⟩ := bR_some h
          refine cw_calli (va_runV (As := [.long ((1 : Int64))]) (rest := []) ⟨hx, hb, hml, hown, hts⟩ (c_Pile_putNumber l D A ad cA tb0 tb1 a0 ha0 ((1 : Int64)) st13 r50 st51 h52) (cwV 1 hts (gw_V w_8fddbe94 w_34c9ad22 w_9e5e849e w_76c797a4 w_03086df0) rfl rfl rfl (by decide +kernel) ⟨Nat.le_of_ble_eq_true rfl, Nat.le_of_ble_eq_true rfl⟩) (cw_preV (k := 182 + 9 * a0) (ci := 4) hK hO rfl (by have := ha0; omega) (cc_Pile ha0)) rfl rfl hl.1 rfl (lv_room (Nat.le_of_ble_eq_true rfl)) dX6_calculate_196 ⟨Nat.zero_le _, Nat.zero_le _⟩) hO (fun H locs hO => ?_)
          obtain ⟨rfl, rfl⟩ := ret2 h; exact cw_iret hx hb hr hlocks hO dX6_calculate_199
      have h := ite_f c65 h
      by_cases c66 : a1 = (12 : Int32)
      · have h := ite_t c66 h
        refine lv_tableIn (tgt := 200) hx hb dX6_calculate_32 (by rw [c66]; decide) (by rw [c66]; decide) (by rw [c66]; rfl) (by decide) ?_
        refine lv_aload_n hx hb dX6_calculate_200 rfl (lv_at hl 2 rfl) ?_
        refine lv_lload hx hb dX6_calculate_201 (lv_at hl 0 rfl) ?_
        refine lv_lload_n hx hb dX6_calculate_203 rfl (lv_at hl 1 rfl) ?_
        refine W.lcmp hx hb dX6_calculate_204 ?_
        refine lv_if_ne (tgt := 212) hx hb dX6_calculate_205 (by decide) (fun c53 => ?_) (fun c53 => ?_)
        · have h := ite_f c53 h
          refine lv_lconst (v := 0) hx hb dX6_calculate_212 (by decide) ?_
          obtain ⟨r54, st55, h56, h⟩ := bR_some h
          refine cw_calli (va_runV (As := [.long ((0 : Int64))]) (rest := []) ⟨hx, hb, hml, hown, hts⟩ (c_Pile_putNumber l D A ad cA tb0 tb1 a0 ha0 ((0 : Int64)) st13 r54 st55 h56) (cwV 1 hts (gw_V w_8fddbe94 w_34c9ad22 w_9e5e849e w_76c797a4 w_03086df0) rfl rfl rfl (by decide +kernel) ⟨Nat.le_of_ble_eq_true rfl, Nat.le_of_ble_eq_true rfl⟩) (cw_preV (k := 182 + 9 * a0) (ci := 4) hK hO rfl (by have := ha0; omega) (cc_Pile ha0)) rfl rfl hl.1 rfl (lv_room (Nat.le_of_ble_eq_true rfl)) dX6_calculate_213 ⟨Nat.zero_le _, Nat.zero_le _⟩) hO (fun H locs hO => ?_)
          obtain ⟨rfl, rfl⟩ := ret2 h; exact cw_iret hx hb hr hlocks hO dX6_calculate_216
        · have h := ite_t c53 h
          refine lv_lconst (v := 1) hx hb dX6_calculate_208 (by decide) ?_
          refine lv_goto (tgt := 213) hx hb dX6_calculate_209 (by decide) ?_
          obtain ⟨r57, st58, h59, h⟩ := bR_some h
          refine cw_calli (va_runV (As := [.long ((1 : Int64))]) (rest := []) ⟨hx, hb, hml, hown, hts⟩ (c_Pile_putNumber l D A ad cA tb0 tb1 a0 ha0 ((1 : Int64)) st13 r57 st58 h59) (cwV 1 hts (gw_V w_8fddbe94 w_34c9ad22 w_9e5e849e w_76c797a4 w_03086df0) rfl rfl rfl (by decide +kernel) ⟨Nat.le_of_ble_eq_true rfl, Nat.le_of_ble_eq_true rfl⟩) (cw_preV (k := 182 + 9 * a0) (ci := 4) hK hO rfl (by have := ha0; omega) (cc_Pile ha0)) rfl rfl hl.1 rfl (lv_room (Nat.le_of_ble_eq_true rfl)) dX6_calculate_213 ⟨Nat.zero_le _, Nat.zero_le _⟩) hO (fun H locs hO => ?_)
          obtain ⟨rfl, rfl⟩ := ret2 h; exact cw_iret hx hb hr hlocks hO dX6_calculate_216
      have h := ite_f c66 h
      refine cw_tableD (tgt := 217) hx hb dX6_calculate_32 (by
        have e0 := lv_neT (a := 6) c60 (by decide)
        have e1 := lv_neT (a := 7) c61 (by decide)
        have e2 := lv_neT (a := 8) c62 (by decide)
        have e3 := lv_neT (a := 9) c63 (by decide)
        have e4 := lv_neT (a := 10) c64 (by decide)
        have e5 := lv_neT (a := 11) c65 (by decide)
        have e6 := lv_neT (a := 12) c66 (by decide)
        by_cases q1 : a1.toInt < 6
        · exact Or.inl q1
        by_cases q2 : (12 : Int) < a1.toInt
        · exact Or.inr (Or.inl q2)
        omega) (by decide) ?_
      refine lv_bipush (v := 12) hx hb dX6_calculate_217 (by decide) ?_
      obtain ⟨rfl, rfl⟩ := ret2 h; exact cw_iret hx hb hr hlocks hO dX6_calculate_219
    · have h := ite_t c8 h
      refine lv_iconst (v := 4) hx hb dX6_calculate_16 (by decide) ?_
      obtain ⟨rfl, rfl⟩ := ret2 h; exact cw_iret hx hb hr hlocks hO dX6_calculate_17
-- Walk jumpIfZero
def j_Walk_jumpIfZero (a0 : Nat) (a1 : Int32) (st : CwS) : Option (Int32 × CwS) :=
  bR (j_Pile_tookNumber a0 ((0 : Int32)) st) fun r1 st2 =>
  if r1 = ((0 : Int32)) then
    some ((4 : Int32), st2)
  else
    ck (decide ((gR st2 0 a0) < 48)) <|
    bR (j_Beh_hasPlace ((gR st2 0 a0)) a1 st2) fun r6 st7 =>
    if r6 = ((0 : Int32)) then
      some ((12 : Int32), st7)
    else
      bR (j_Pile_took a0 ((0 : Int32)) st7) fun r10 st11 =>
      if (lg_cmp r10 ((0 : Int64))) = ((0 : Int32)) then
        bR (j_Frame_jump a0 a1 st11) fun r14 st15 =>
        some (r14, st15)
      else
        some ((0 : Int32), st11)
set_option maxHeartbeats 4000000 in
set_option maxRecDepth 100000 in
theorem c_Walk_jumpIfZero (l : Launch) (D : va_G) (A : Nat → Prop) (ad : Nat → Nat) (cA : Nat → ClassId) (tb0 tb1 : Nat) (a0 : Nat) (ha0 : a0 < 10) (a1 : Int32) (st : CwS) (r : Int32) (st' : CwS) (h : j_Walk_jumpIfZero a0 a1 st = some (r, st')) : Met l yX6_jumpIfZero (wv yX6_jumpIfZero cX6_jumpIfZero 2 (some .int)) ({ frames := 2, cells := 0, slots := 0, locals := 43 }) (va_Pc [.ref (ad (179 + 9 * a0)), .int a1] (cwU D A ad cA tb0 tb1 st)) (cwQi D A ad cA tb0 tb1 r st') 0 0 A := by
  refine Met.ofW (cc := cX6_jumpIfZero) (maxL := 2) (ret := some .int) (by decide) rfl ?_
  intro p e s m args below meth c s₁ B hml hv
  obtain ⟨rfl, hP, hK⟩ := hv
  have hx := B.exec
  have hb := B.bytes
  have hr := B.returns
  have hts := atoms_spec (ws := wv yX6_jumpIfZero cX6_jumpIfZero 2 (some .int)) B.pre
  have hown : s.vm.findClass RX6 = some m.cls := findClass_of_methodNamed B.named
  have hlocks := B.notSynchronized
  have hO : cwO D A ad cA s st s.heap [] := ⟨hP, va_S.rf⟩
  have hl := lv_entry ([.ref (ad (179 + 9 * a0)), .int a1]) (n := 2) (Nat.le_of_ble_eq_true rfl)
  rw [lg_entry_eq]
  generalize (lg_sl ([.ref (ad (179 + 9 * a0)), .int a1]) ++ List.replicate (2 - (lg_sl ([.ref (ad (179 + 9 * a0)), .int a1])).length) Slot.unset).toArray = ls at hl ⊢
  have hl : lv_has ls 2 [(0, .ref (ad (179 + 9 * a0))), (1, .int a1)] := hl
  have _h0 := hO
  have hgw := fun (w : Cond) (h : w ∈ gwW) => hts w (List.mem_cons_of_mem _ h)
  have k62 := hgw _ w_115d9ac3
  have k108 := hgw _ w_9f87e21a
  unfold j_Walk_jumpIfZero at h
  refine lv_aload_n hx hb dX6_jumpIfZero_0 rfl (lv_at hl 0 rfl) ?_
  refine gf_Frame_pile hx hb hgw iwFrame hown hK hO ha0 k62 dX6_jumpIfZero_1 ?_
  refine lv_iconst (v := 0) hx hb dX6_jumpIfZero_4 (by decide) ?_
  obtain ⟨r1, st2, h3, h⟩ := bR_some h
  refine cw_calli (va_runV (As := [.int ((0 : Int32))]) (rest := []) ⟨hx, hb, hml, hown, hts⟩ (c_Pile_tookNumber l D A ad cA tb0 tb1 a0 ha0 ((0 : Int32)) st r1 st2 h3) (cwV 1 hts (gw_V w_1588eb10 w_710a0455 w_eea10879 w_76c797a4 w_f9f5f760) rfl rfl rfl (by decide +kernel) ⟨Nat.le_of_ble_eq_true rfl, Nat.le_of_ble_eq_true rfl⟩) (cw_preV (k := 182 + 9 * a0) (ci := 4) hK hO rfl (by have := ha0; omega) (cc_Pile ha0)) rfl rfl hl.1 rfl (lv_room (Nat.le_of_ble_eq_true rfl)) dX6_jumpIfZero_5 ⟨Nat.zero_le _, Nat.zero_le _⟩) hO (fun H locs hO => ?_)
  refine lv_if_ne (tgt := 13) hx hb dX6_jumpIfZero_8 (by decide) (fun c4 => ?_) (fun c4 => ?_)
  · have h := ite_f c4 h
    refine lv_aload_n hx hb dX6_jumpIfZero_13 rfl (lv_at hl 0 rfl) ?_
    obtain ⟨hc5, h⟩ := ck_some h
    refine gf_Frame_behaviour hx hb hgw iwFrame hown hK hO ha0 k108 dX6_jumpIfZero_14 ?_
    refine lv_iload_n hx hb dX6_jumpIfZero_17 rfl (lv_at hl 1 rfl) ?_
    obtain ⟨r6, st7, h8, h⟩ := bR_some h
    refine cw_calli (va_runV (As := [.int a1]) (rest := []) ⟨hx, hb, hml, hown, hts⟩ (c_Beh_hasPlace l D A ad cA tb0 tb1 ((gR st2 0 a0)) (ck_lt hc5) a1 st2 r6 st7 h8) (cwV 1 hts (gw_V w_aec1e59d w_5a85a84b w_16f77c3b w_644e7304 w_185b0c4c) rfl rfl rfl (by decide +kernel) ⟨Nat.le_of_ble_eq_true rfl, Nat.le_of_ble_eq_true rfl⟩) (cw_preV (k := 4 + 3 * (gR st2 0 a0)) (ci := 0) hK hO rfl (by have := (ck_lt hc5); omega) (cc_Beh (ck_lt hc5))) rfl rfl hl.1 rfl (lv_room (Nat.le_of_ble_eq_true rfl)) dX6_jumpIfZero_18 ⟨Nat.zero_le _, Nat.zero_le _⟩) hO (fun H locs hO => ?_)
    refine lv_if_ne (tgt := 27) hx hb dX6_jumpIfZero_21 (by decide) (fun c9 => ?_) (fun c9 => ?_)
    · have h := ite_f c9 h
      refine lv_aload_n hx hb dX6_jumpIfZero_27 rfl (lv_at hl 0 rfl) ?_
      refine gf_Frame_pile hx hb hgw iwFrame hown hK hO ha0 k62 dX6_jumpIfZero_28 ?_
      refine lv_iconst (v := 0) hx hb dX6_jumpIfZero_31 (by decide) ?_
      obtain ⟨r10, st11, h12, h⟩ := bR_some h
      refine cw_calll (va_runV (As := [.int ((0 : Int32))]) (rest := []) ⟨hx, hb, hml, hown, hts⟩ (c_Pile_took l D A ad cA tb0 tb1 a0 ha0 ((0 : Int32)) st7 r10 st11 h12) (cwV 1 hts (gw_V w_93fed6db w_e50f7684 w_26b160a3 w_76c797a4 w_c905c078) rfl rfl rfl (by decide +kernel) ⟨Nat.le_of_ble_eq_true rfl, Nat.le_of_ble_eq_true rfl⟩) (cw_preV (k := 182 + 9 * a0) (ci := 4) hK hO rfl (by have := ha0; omega) (cc_Pile ha0)) rfl rfl hl.1 rfl (lv_room (Nat.le_of_ble_eq_true rfl)) dX6_jumpIfZero_32 ⟨Nat.zero_le _, Nat.zero_le _⟩) hO (fun H locs hO => ?_)
      refine lv_lconst (v := 0) hx hb dX6_jumpIfZero_35 (by decide) ?_
      refine W.lcmp hx hb dX6_jumpIfZero_36 ?_
      refine lv_if_ne (tgt := 48) hx hb dX6_jumpIfZero_37 (by decide) (fun c13 => ?_) (fun c13 => ?_)
      · have h := ite_f c13 h
        refine lv_iconst (v := 0) hx hb dX6_jumpIfZero_48 (by decide) ?_
        obtain ⟨rfl, rfl⟩ := ret2 h; exact cw_iret hx hb hr hlocks hO dX6_jumpIfZero_49
      · have h := ite_t c13 h
        refine lv_aload_n hx hb dX6_jumpIfZero_40 rfl (lv_at hl 0 rfl) ?_
        refine lv_iload_n hx hb dX6_jumpIfZero_41 rfl (lv_at hl 1 rfl) ?_
        obtain ⟨r14, st15, h16, h⟩ := bR_some h
        refine cw_calli (va_runV (As := [.int a1]) (rest := []) ⟨hx, hb, hml, hown, hts⟩ (c_Frame_jump l D A ad cA tb0 tb1 a0 ha0 a1 st11 r14 st15 h16) (cwV 1 hts (gw_V w_9d79fd68 w_a6d3ff5e w_b84d1b6c w_aeeb22ff w_a67431f2) rfl rfl rfl (by decide +kernel) ⟨Nat.le_of_ble_eq_true rfl, Nat.le_of_ble_eq_true rfl⟩) (cw_preV (k := 179 + 9 * a0) (ci := 2) hK hO rfl (by have := ha0; omega) (cc_Frame ha0)) rfl rfl hl.1 rfl (lv_room (Nat.le_of_ble_eq_true rfl)) dX6_jumpIfZero_42 ⟨Nat.zero_le _, Nat.zero_le _⟩) hO (fun H locs hO => ?_)
        refine lv_goto (tgt := 49) hx hb dX6_jumpIfZero_45 (by decide) ?_
        obtain ⟨rfl, rfl⟩ := ret2 h; exact cw_iret hx hb hr hlocks hO dX6_jumpIfZero_49
    · have h := ite_t c9 h
      refine lv_bipush (v := 12) hx hb dX6_jumpIfZero_24 (by decide) ?_
      obtain ⟨rfl, rfl⟩ := ret2 h; exact cw_iret hx hb hr hlocks hO dX6_jumpIfZero_26
  · have h := ite_t c4 h
    refine lv_iconst (v := 4) hx hb dX6_jumpIfZero_11 (by decide) ?_
    obtain ⟨rfl, rfl⟩ := ret2 h; exact cw_iret hx hb hr hlocks hO dX6_jumpIfZero_12
-- Walk giveBack
def j_Walk_giveBack (a1 : Nat) (st : CwS) : Option (Int32 × CwS) :=
  bR (j_Pile_tookNumber a1 ((0 : Int32)) st) fun r1 st2 =>
  if r1 = ((0 : Int32)) then
    some ((4 : Int32), st2)
  else
    bR (j_Pile_took a1 ((0 : Int32)) st2) fun r5 st6 =>
    bV (j_Walk_endWell r5 st6) fun st9 =>
    some ((0 : Int32), st9)
set_option maxHeartbeats 4000000 in
set_option maxRecDepth 100000 in
theorem c_Walk_giveBack (l : Launch) (D : va_G) (A : Nat → Prop) (ad : Nat → Nat) (cA : Nat → ClassId) (tb0 tb1 : Nat) (a1 : Nat) (ha1 : a1 < 10) (st : CwS) (r : Int32) (st' : CwS) (h : j_Walk_giveBack a1 st = some (r, st')) : Met l yX6_giveBack (wv yX6_giveBack cX6_giveBack 2 (some .int)) ({ frames := 3, cells := 0, slots := 0, locals := 67 }) (va_Pc [.ref (ad 176), .ref (ad (182 + 9 * a1))] (cwU D A ad cA tb0 tb1 st)) (cwQi D A ad cA tb0 tb1 r st') 0 0 A := by
  refine Met.ofW (cc := cX6_giveBack) (maxL := 2) (ret := some .int) (by decide) rfl ?_
  intro p e s m args below meth c s₁ B hml hv
  obtain ⟨rfl, hP, hK⟩ := hv
  have hx := B.exec
  have hb := B.bytes
  have hr := B.returns
  have hts := atoms_spec (ws := wv yX6_giveBack cX6_giveBack 2 (some .int)) B.pre
  have hown : s.vm.findClass RX6 = some m.cls := findClass_of_methodNamed B.named
  have hlocks := B.notSynchronized
  have hO : cwO D A ad cA s st s.heap [] := ⟨hP, va_S.rf⟩
  have hl := lv_entry ([.ref (ad 176), .ref (ad (182 + 9 * a1))]) (n := 2) (Nat.le_of_ble_eq_true rfl)
  rw [lg_entry_eq]
  generalize (lg_sl ([.ref (ad 176), .ref (ad (182 + 9 * a1))]) ++ List.replicate (2 - (lg_sl ([.ref (ad 176), .ref (ad (182 + 9 * a1))])).length) Slot.unset).toArray = ls at hl ⊢
  have hl : lv_has ls 2 [(0, .ref (ad 176)), (1, .ref (ad (182 + 9 * a1)))] := hl
  have _h0 := hO
  have hgw := fun (w : Cond) (h : w ∈ gwW) => hts w (List.mem_cons_of_mem _ h)
  unfold j_Walk_giveBack at h
  refine lv_aload_n hx hb dX6_giveBack_0 rfl (lv_at hl 1 rfl) ?_
  refine lv_iconst (v := 0) hx hb dX6_giveBack_1 (by decide) ?_
  obtain ⟨r1, st2, h3, h⟩ := bR_some h
  refine cw_calli (va_runV (As := [.int ((0 : Int32))]) (rest := []) ⟨hx, hb, hml, hown, hts⟩ (c_Pile_tookNumber l D A ad cA tb0 tb1 a1 ha1 ((0 : Int32)) st r1 st2 h3) (cwV 1 hts (gw_V w_1588eb10 w_710a0455 w_eea10879 w_76c797a4 w_f9f5f760) rfl rfl rfl (by decide +kernel) ⟨Nat.le_of_ble_eq_true rfl, Nat.le_of_ble_eq_true rfl⟩) (cw_preV (k := 182 + 9 * a1) (ci := 4) hK hO rfl (by have := ha1; omega) (cc_Pile ha1)) rfl rfl hl.1 rfl (lv_room (Nat.le_of_ble_eq_true rfl)) dX6_giveBack_2 ⟨Nat.zero_le _, Nat.zero_le _⟩) hO (fun H locs hO => ?_)
  refine lv_if_ne (tgt := 10) hx hb dX6_giveBack_5 (by decide) (fun c4 => ?_) (fun c4 => ?_)
  · have h := ite_f c4 h
    refine lv_aload_n hx hb dX6_giveBack_10 rfl (lv_at hl 0 rfl) ?_
    refine lv_aload_n hx hb dX6_giveBack_11 rfl (lv_at hl 1 rfl) ?_
    refine lv_iconst (v := 0) hx hb dX6_giveBack_12 (by decide) ?_
    obtain ⟨r5, st6, h7, h⟩ := bR_some h
    refine cw_calll (va_runV (As := [.int ((0 : Int32))]) (rest := [.ref (ad 176)]) ⟨hx, hb, hml, hown, hts⟩ (c_Pile_took l D A ad cA tb0 tb1 a1 ha1 ((0 : Int32)) st2 r5 st6 h7) (cwV 1 hts (gw_V w_93fed6db w_e50f7684 w_26b160a3 w_76c797a4 w_c905c078) rfl rfl rfl (by decide +kernel) ⟨Nat.le_of_ble_eq_true rfl, Nat.le_of_ble_eq_true rfl⟩) (cw_preV (k := 182 + 9 * a1) (ci := 4) hK hO rfl (by have := ha1; omega) (cc_Pile ha1)) rfl rfl hl.1 rfl (lv_room (Nat.le_of_ble_eq_true rfl)) dX6_giveBack_13 ⟨Nat.zero_le _, Nat.zero_le _⟩) hO (fun H locs hO => ?_)
    obtain ⟨st9, h10, h⟩ := bV_some h
    refine cw_callv (va_runV (As := [.long r5]) (rest := []) ⟨hx, hb, hml, hown, hts⟩ (c_Walk_endWell l D A ad cA tb0 tb1 r5 st6 st9 h10) (cwV 1 hts (gw_V w_38165e87 w_d970e0b9 w_f7c4a27b w_f8f5642f w_1b9bef71) rfl rfl rfl (by decide +kernel) ⟨Nat.le_of_ble_eq_true rfl, Nat.le_of_ble_eq_true rfl⟩) (cw_preV (k := 176) (ci := 6) hK hO rfl (by decide) (cc_Walk)) rfl rfl hl.1 rfl (lv_room (Nat.le_of_ble_eq_true rfl)) dX6_giveBack_16 ⟨Nat.zero_le _, Nat.zero_le _⟩) hO (fun H locs hO => ?_)
    refine lv_iconst (v := 0) hx hb dX6_giveBack_19 (by decide) ?_
    obtain ⟨rfl, rfl⟩ := ret2 h; exact cw_iret hx hb hr hlocks hO dX6_giveBack_20
  · have h := ite_t c4 h
    refine lv_iconst (v := 4) hx hb dX6_giveBack_8 (by decide) ?_
    obtain ⟨rfl, rfl⟩ := ret2 h; exact cw_iret hx hb hr hlocks hO dX6_giveBack_9
-- Walk tellEvent
def j_Walk_tellEvent (a1 : Nat) (st : CwS) : Option (Int32 × CwS) :=
  bR (j_Pile_tookNumber a1 ((0 : Int32)) st) fun r1 st2 =>
  if r1 = ((0 : Int32)) then
    some ((4 : Int32), st2)
  else
    bR (j_Pile_took a1 ((0 : Int32)) st2) fun r5 st6 =>
    bR (j_Ledger_addEvent (gI st2 13 a1 0) r5 st6) fun r8 st9 =>
    if r8 = ((0 : Int32)) then
      some ((11 : Int32), st9)
    else
      some ((0 : Int32), st9)
set_option maxHeartbeats 4000000 in
set_option maxRecDepth 100000 in
theorem c_Walk_tellEvent (l : Launch) (D : va_G) (A : Nat → Prop) (ad : Nat → Nat) (cA : Nat → ClassId) (tb0 tb1 : Nat) (a1 : Nat) (ha1 : a1 < 10) (st : CwS) (r : Int32) (st' : CwS) (h : j_Walk_tellEvent a1 st = some (r, st')) : Met l yX6_tellEvent (wv yX6_tellEvent cX6_tellEvent 2 (some .int)) ({ frames := 2, cells := 0, slots := 0, locals := 43 }) (va_Pc [.ref (ad 176), .ref (ad (179 + 9 * a1))] (cwU D A ad cA tb0 tb1 st)) (cwQi D A ad cA tb0 tb1 r st') 0 0 A := by
  refine Met.ofW (cc := cX6_tellEvent) (maxL := 2) (ret := some .int) (by decide) rfl ?_
  intro p e s m args below meth c s₁ B hml hv
  obtain ⟨rfl, hP, hK⟩ := hv
  have hx := B.exec
  have hb := B.bytes
  have hr := B.returns
  have hts := atoms_spec (ws := wv yX6_tellEvent cX6_tellEvent 2 (some .int)) B.pre
  have hown : s.vm.findClass RX6 = some m.cls := findClass_of_methodNamed B.named
  have hlocks := B.notSynchronized
  have hO : cwO D A ad cA s st s.heap [] := ⟨hP, va_S.rf⟩
  have hl := lv_entry ([.ref (ad 176), .ref (ad (179 + 9 * a1))]) (n := 2) (Nat.le_of_ble_eq_true rfl)
  rw [lg_entry_eq]
  generalize (lg_sl ([.ref (ad 176), .ref (ad (179 + 9 * a1))]) ++ List.replicate (2 - (lg_sl ([.ref (ad 176), .ref (ad (179 + 9 * a1))])).length) Slot.unset).toArray = ls at hl ⊢
  have hl : lv_has ls 2 [(0, .ref (ad 176)), (1, .ref (ad (179 + 9 * a1)))] := hl
  have _h0 := hO
  have hgw := fun (w : Cond) (h : w ∈ gwW) => hts w (List.mem_cons_of_mem _ h)
  have k36 := hgw _ w_4f54f888
  have k62 := hgw _ w_115d9ac3
  have k214 := hgw _ w_3799d173
  unfold j_Walk_tellEvent at h
  refine lv_aload_n hx hb dX6_tellEvent_0 rfl (lv_at hl 1 rfl) ?_
  refine gf_Frame_pile hx hb hgw iwFrame hown hK hO ha1 k62 dX6_tellEvent_1 ?_
  refine lv_iconst (v := 0) hx hb dX6_tellEvent_4 (by decide) ?_
  obtain ⟨r1, st2, h3, h⟩ := bR_some h
  refine cw_calli (va_runV (As := [.int ((0 : Int32))]) (rest := []) ⟨hx, hb, hml, hown, hts⟩ (c_Pile_tookNumber l D A ad cA tb0 tb1 a1 ha1 ((0 : Int32)) st r1 st2 h3) (cwV 1 hts (gw_V w_1588eb10 w_710a0455 w_eea10879 w_76c797a4 w_f9f5f760) rfl rfl rfl (by decide +kernel) ⟨Nat.le_of_ble_eq_true rfl, Nat.le_of_ble_eq_true rfl⟩) (cw_preV (k := 182 + 9 * a1) (ci := 4) hK hO rfl (by have := ha1; omega) (cc_Pile ha1)) rfl rfl hl.1 rfl (lv_room (Nat.le_of_ble_eq_true rfl)) dX6_tellEvent_5 ⟨Nat.zero_le _, Nat.zero_le _⟩) hO (fun H locs hO => ?_)
  refine lv_if_ne (tgt := 13) hx hb dX6_tellEvent_8 (by decide) (fun c4 => ?_) (fun c4 => ?_)
  · have h := ite_f c4 h
    refine lv_aload_n hx hb dX6_tellEvent_13 rfl (lv_at hl 0 rfl) ?_
    refine gf_Walk_ledger hx hb hgw iwWalk hown hK hO k36 dX6_tellEvent_14 ?_
    refine lv_aload_n hx hb dX6_tellEvent_17 rfl (lv_at hl 1 rfl) ?_
    refine gf_Frame_contract hx hb hgw iwFrame hown hK hO ha1 k214 dX6_tellEvent_18 ?_
    refine lv_aload_n hx hb dX6_tellEvent_21 rfl (lv_at hl 1 rfl) ?_
    refine gf_Frame_pile hx hb hgw iwFrame hown hK hO ha1 k62 dX6_tellEvent_22 ?_
    refine lv_iconst (v := 0) hx hb dX6_tellEvent_25 (by decide) ?_
    obtain ⟨r5, st6, h7, h⟩ := bR_some h
    refine cw_calll (va_runV (As := [.int ((0 : Int32))]) (rest := [.int (gI st2 13 a1 0), .ref (ad 148)]) ⟨hx, hb, hml, hown, hts⟩ (c_Pile_took l D A ad cA tb0 tb1 a1 ha1 ((0 : Int32)) st2 r5 st6 h7) (cwV 1 hts (gw_V w_93fed6db w_e50f7684 w_26b160a3 w_76c797a4 w_c905c078) rfl rfl rfl (by decide +kernel) ⟨Nat.le_of_ble_eq_true rfl, Nat.le_of_ble_eq_true rfl⟩) (cw_preV (k := 182 + 9 * a1) (ci := 4) hK hO rfl (by have := ha1; omega) (cc_Pile ha1)) rfl rfl hl.1 rfl (lv_room (Nat.le_of_ble_eq_true rfl)) dX6_tellEvent_26 ⟨Nat.zero_le _, Nat.zero_le _⟩) hO (fun H locs hO => ?_)
    obtain ⟨r8, st9, h10, h⟩ := bR_some h
    refine cw_calli (va_runV (As := [.int (gI st2 13 a1 0), .long r5]) (rest := []) ⟨hx, hb, hml, hown, hts⟩ (c_Ledger_addEvent l D A ad cA tb0 tb1 (gI st2 13 a1 0) r5 st6 r8 st9 h10) (cwV 2 hts (gw_V w_66c7743a w_c763f9a9 w_9539a923 w_7f12e8e2 w_3ffdc574) rfl rfl rfl (by decide +kernel) ⟨Nat.le_of_ble_eq_true rfl, Nat.le_of_ble_eq_true rfl⟩) (cw_preV (k := 148) (ci := 3) hK hO rfl (by decide) (cc_Ledger)) rfl rfl hl.1 rfl (lv_room (Nat.le_of_ble_eq_true rfl)) dX6_tellEvent_29 ⟨Nat.zero_le _, Nat.zero_le _⟩) hO (fun H locs hO => ?_)
    refine lv_if_eq (tgt := 39) hx hb dX6_tellEvent_32 (by decide) (fun c11 => ?_) (fun c11 => ?_)
    · have h := ite_t c11 h
      refine lv_bipush (v := 11) hx hb dX6_tellEvent_39 (by decide) ?_
      obtain ⟨rfl, rfl⟩ := ret2 h; exact cw_iret hx hb hr hlocks hO dX6_tellEvent_41
    · have h := ite_f c11 h
      refine lv_iconst (v := 0) hx hb dX6_tellEvent_35 (by decide) ?_
      refine lv_goto (tgt := 41) hx hb dX6_tellEvent_36 (by decide) ?_
      obtain ⟨rfl, rfl⟩ := ret2 h; exact cw_iret hx hb hr hlocks hO dX6_tellEvent_41
  · have h := ite_t c4 h
    refine lv_iconst (v := 4) hx hb dX6_tellEvent_11 (by decide) ?_
    obtain ⟨rfl, rfl⟩ := ret2 h; exact cw_iret hx hb hr hlocks hO dX6_tellEvent_12
