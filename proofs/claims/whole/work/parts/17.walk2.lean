-- Walk callOther
def j_Walk_callOther (a1 : Nat) (a2 : Int32) (st : CwS) : Option (Int32 × CwS) :=
  bR (j_Pile_tookNumber a1 ((1 : Int32)) st) fun r1 st2 =>
  if r1 = ((0 : Int32)) then
    some ((4 : Int32), st2)
  else
    bR (j_Pile_tookNumber a1 ((2 : Int32)) st2) fun r5 st6 =>
    if r5 = ((0 : Int32)) then
      some ((4 : Int32), st6)
    else
      bR (j_Pile_took a1 ((2 : Int32)) st6) fun r9 st10 =>
      bR (j_Walk_callFailure (gI st10 13 a1 0) r9 a2 st10) fun r12 st13 =>
      if r12 = ((0 : Int32)) then
        ck (ix ((0 : Int32)) 5) <|
        bR (j_Pile_took a1 ((1 : Int32)) st13) fun r17 st18 =>
        bR (j_Book_find (a2 / ((8 : Int32))) (a2 - a2 / ((8 : Int32)) * ((8 : Int32))) st18) fun r20 st21 =>
        ck (decide (r20 < 48)) <|
        bR (j_Walk_open r20 (a2 / ((8 : Int32))) (gI st21 13 a1 0) ((if (if (((gI st13 16 a1 0) - (gI st13 7 0 (((0 : Int32)).toNatClampNeg))).toInt64) < r17 then (((gI st13 16 a1 0) - (gI st13 7 0 (((0 : Int32)).toNatClampNeg))).toInt64) else r17) < ((0 : Int64)) then ((0 : Int64)) else (if (((gI st13 16 a1 0) - (gI st13 7 0 (((0 : Int32)).toNatClampNeg))).toInt64) < r17 then (((gI st13 16 a1 0) - (gI st13 7 0 (((0 : Int32)).toNatClampNeg))).toInt64) else r17)).toInt32) st21) fun r24 st25 =>
        ck (decide (r24 < 10)) <|
        bV (j_Ledger_move (gI st25 13 a1 0) (a2 / ((8 : Int32))) r9 st25) fun st29 =>
        bR (j_Pile_tookKind a1 ((0 : Int32)) st29) fun r31 st32 =>
        if r31 = ((1 : Int32)) then
          bR (j_Pile_took a1 ((0 : Int32)) st32) fun r35 st36 =>
          bR (j_Rows_putCopy r24 r31 a1 r35 st36) fun r38 st39 =>
          some (r38, st39)
        else
          if r31 = ((2 : Int32)) then
            bR (j_Pile_took a1 ((0 : Int32)) st32) fun r48 st49 =>
            bR (j_Rows_putCopy r24 r31 a1 r48 st49) fun r51 st52 =>
            some (r51, st52)
          else
            bR (j_Pile_took a1 ((0 : Int32)) st32) fun r42 st43 =>
            bR (j_Pile_put r24 r31 r42 st43) fun r45 st46 =>
            some (r45, st46)
      else
        some (r12, st13)
set_option maxHeartbeats 4000000 in
set_option maxRecDepth 100000 in
theorem c_Walk_callOther (l : Launch) (D : va_G) (A : Nat → Prop) (ad : Nat → Nat) (cA : Nat → ClassId) (tb0 tb1 : Nat) (a1 : Nat) (ha1 : a1 < 10) (a2 : Int32) (st : CwS) (r : Int32) (st' : CwS) (h : j_Walk_callOther a1 a2 st = some (r, st')) : Met l yX6_callOther (wv yX6_callOther cX6_callOther 13 (some .int)) ({ frames := 3, cells := 0, slots := 0, locals := 86 }) (va_Pc [.ref (ad 176), .ref (ad (179 + 9 * a1)), .int a2] (cwU D A ad cA tb0 tb1 st)) (cwQi D A ad cA tb0 tb1 r st') 0 0 A := by
  refine Met.ofW (cc := cX6_callOther) (maxL := 13) (ret := some .int) (by decide) rfl ?_
  intro p e s m args below meth c s₁ B hml hv
  obtain ⟨rfl, hP, hK⟩ := hv
  have hx := B.exec
  have hb := B.bytes
  have hr := B.returns
  have hts := atoms_spec (ws := wv yX6_callOther cX6_callOther 13 (some .int)) B.pre
  have hown : s.vm.findClass RX6 = some m.cls := findClass_of_methodNamed B.named
  have hlocks := B.notSynchronized
  have hO : cwO D A ad cA s st s.heap [] := ⟨hP, va_S.rf⟩
  have hl := lv_entry ([.ref (ad 176), .ref (ad (179 + 9 * a1)), .int a2]) (n := 13) (Nat.le_of_ble_eq_true rfl)
  rw [lg_entry_eq]
  generalize (lg_sl ([.ref (ad 176), .ref (ad (179 + 9 * a1)), .int a2]) ++ List.replicate (13 - (lg_sl ([.ref (ad 176), .ref (ad (179 + 9 * a1)), .int a2])).length) Slot.unset).toArray = ls at hl ⊢
  have hl : lv_has ls 13 [(0, .ref (ad 176)), (1, .ref (ad (179 + 9 * a1))), (2, .int a2)] := hl
  have _h0 := hO
  have hgw := fun (w : Cond) (h : w ∈ gwW) => hts w (List.mem_cons_of_mem _ h)
  have k17 := hgw _ w_b50feff6
  have k32 := hgw _ w_6dd6e69a
  have k36 := hgw _ w_4f54f888
  have k62 := hgw _ w_115d9ac3
  have k99 := hgw _ w_1602bc2a
  have k168 := hgw _ w_e788c032
  have k214 := hgw _ w_3799d173
  have k261 := hgw _ w_6fae0919
  have k265 := hgw _ w_d7508f55
  unfold j_Walk_callOther at h
  refine lv_aload_n hx hb dX6_callOther_0 rfl (lv_at hl 1 rfl) ?_
  refine gf_Frame_pile hx hb hgw iwFrame hown hK hO ha1 k62 dX6_callOther_1 ?_
  refine lv_astore_n (lv' := [(3, .ref (ad (182 + 9 * a1))), (0, .ref (ad 176)), (1, .ref (ad (179 + 9 * a1))), (2, .int a2)]) hx hb dX6_callOther_4 rfl hl (by decide) rfl (fun ls hl => ?_)
  refine lv_aload_n hx hb dX6_callOther_5 rfl (lv_at hl 0 rfl) ?_
  refine lv_iconst (v := 1) hx hb dX6_callOther_6 (by decide) ?_
  obtain ⟨r1, st2, h3, h⟩ := bR_some h
  refine cw_calli (va_runV (As := [.int ((1 : Int32))]) (rest := []) ⟨hx, hb, hml, hown, hts⟩ (c_Pile_tookNumber l D A ad cA tb0 tb1 a1 ha1 ((1 : Int32)) st r1 st2 h3) (cwV 1 hts (gw_V w_1588eb10 w_710a0455 w_eea10879 w_76c797a4 w_f9f5f760) rfl rfl rfl (by decide +kernel) ⟨Nat.le_of_ble_eq_true rfl, Nat.le_of_ble_eq_true rfl⟩) (cw_preV (k := 182 + 9 * a1) (ci := 4) hK hO rfl (by have := ha1; omega) (cc_Pile ha1)) rfl rfl hl.1 rfl (lv_room (Nat.le_of_ble_eq_true rfl)) dX6_callOther_7 ⟨Nat.zero_le _, Nat.zero_le _⟩) hO (fun H locs hO => ?_)
  refine lv_if_eq (tgt := 21) hx hb dX6_callOther_10 (by decide) (fun c4 => ?_) (fun c4 => ?_)
  · have h := ite_t c4 h
    refine lv_iconst (v := 4) hx hb dX6_callOther_21 (by decide) ?_
    obtain ⟨rfl, rfl⟩ := ret2 h; exact cw_iret hx hb hr hlocks hO dX6_callOther_22
  · have h := ite_f c4 h
    refine lv_aload_n hx hb dX6_callOther_13 rfl (lv_at hl 0 rfl) ?_
    refine lv_iconst (v := 2) hx hb dX6_callOther_14 (by decide) ?_
    obtain ⟨r5, st6, h7, h⟩ := bR_some h
    refine cw_calli (va_runV (As := [.int ((2 : Int32))]) (rest := []) ⟨hx, hb, hml, hown, hts⟩ (c_Pile_tookNumber l D A ad cA tb0 tb1 a1 ha1 ((2 : Int32)) st2 r5 st6 h7) (cwV 1 hts (gw_V w_1588eb10 w_710a0455 w_eea10879 w_76c797a4 w_f9f5f760) rfl rfl rfl (by decide +kernel) ⟨Nat.le_of_ble_eq_true rfl, Nat.le_of_ble_eq_true rfl⟩) (cw_preV (k := 182 + 9 * a1) (ci := 4) hK hO rfl (by have := ha1; omega) (cc_Pile ha1)) rfl rfl hl.1 rfl (lv_room (Nat.le_of_ble_eq_true rfl)) dX6_callOther_15 ⟨Nat.zero_le _, Nat.zero_le _⟩) hO (fun H locs hO => ?_)
    refine lv_if_ne (tgt := 23) hx hb dX6_callOther_18 (by decide) (fun c8 => ?_) (fun c8 => ?_)
    · have h := ite_f c8 h
      refine lv_aload_n hx hb dX6_callOther_23 rfl (lv_at hl 0 rfl) ?_
      refine lv_iconst (v := 2) hx hb dX6_callOther_24 (by decide) ?_
      obtain ⟨r9, st10, h11, h⟩ := bR_some h
      refine cw_calll (va_runV (As := [.int ((2 : Int32))]) (rest := []) ⟨hx, hb, hml, hown, hts⟩ (c_Pile_took l D A ad cA tb0 tb1 a1 ha1 ((2 : Int32)) st6 r9 st10 h11) (cwV 1 hts (gw_V w_93fed6db w_e50f7684 w_26b160a3 w_76c797a4 w_c905c078) rfl rfl rfl (by decide +kernel) ⟨Nat.le_of_ble_eq_true rfl, Nat.le_of_ble_eq_true rfl⟩) (cw_preV (k := 182 + 9 * a1) (ci := 4) hK hO rfl (by have := ha1; omega) (cc_Pile ha1)) rfl rfl hl.1 rfl (lv_room (Nat.le_of_ble_eq_true rfl)) dX6_callOther_25 ⟨Nat.zero_le _, Nat.zero_le _⟩) hO (fun H locs hO => ?_)
      refine lv_lstore (lv' := [(4, .long r9), (3, .ref (ad (182 + 9 * a1))), (0, .ref (ad 176)), (1, .ref (ad (179 + 9 * a1))), (2, .int a2)]) hx hb dX6_callOther_28 hl (by decide) rfl (fun ls hl => ?_)
      refine lv_aload_n hx hb dX6_callOther_30 rfl (lv_at hl 2 rfl) ?_
      refine lv_aload_n hx hb dX6_callOther_31 rfl (lv_at hl 3 rfl) ?_
      refine gf_Frame_contract hx hb hgw iwFrame hown hK hO ha1 k214 dX6_callOther_32 ?_
      refine lv_lload hx hb dX6_callOther_35 (lv_at hl 0 rfl) ?_
      refine lv_iload_n hx hb dX6_callOther_37 rfl (lv_at hl 4 rfl) ?_
      obtain ⟨r12, st13, h14, h⟩ := bR_some h
      refine cw_calli (va_runV (As := [.int (gI st10 13 a1 0), .long r9, .int a2]) (rest := []) ⟨hx, hb, hml, hown, hts⟩ (c_Walk_callFailure l D A ad cA tb0 tb1 (gI st10 13 a1 0) r9 a2 st10 r12 st13 h14) (cwV 3 hts (gw_V w_8005dff5 w_c3c6afd2 w_8912cd72 w_f8f5642f w_5bafc6ba) rfl rfl rfl (by decide +kernel) ⟨Nat.le_of_ble_eq_true rfl, Nat.le_of_ble_eq_true rfl⟩) (cw_preV (k := 176) (ci := 6) hK hO rfl (by decide) (cc_Walk)) rfl rfl hl.1 rfl (lv_room (Nat.le_of_ble_eq_true rfl)) dX6_callOther_38 ⟨Nat.zero_le _, Nat.zero_le _⟩) hO (fun H locs hO => ?_)
      refine lv_istore (lv' := [(6, .int r12), (4, .long r9), (3, .ref (ad (182 + 9 * a1))), (0, .ref (ad 176)), (1, .ref (ad (179 + 9 * a1))), (2, .int a2)]) hx hb dX6_callOther_41 hl (by decide) rfl (fun ls hl => ?_)
      refine lv_iload hx hb dX6_callOther_43 (lv_at hl 0 rfl) ?_
      refine lv_if_eq (tgt := 51) hx hb dX6_callOther_45 (by decide) (fun c15 => ?_) (fun c15 => ?_)
      · have h := ite_t c15 h
        refine lv_iload_n hx hb dX6_callOther_51 rfl (lv_at hl 5 rfl) ?_
        refine lv_bipush (v := 8) hx hb dX6_callOther_52 (by decide) ?_
        refine lv_idiv hx hb dX6_callOther_54 (by decide) ?_
        refine lv_istore (lv' := [(7, .int (a2 / ((8 : Int32)))), (6, .int r12), (4, .long r9), (3, .ref (ad (182 + 9 * a1))), (0, .ref (ad 176)), (1, .ref (ad (179 + 9 * a1))), (2, .int a2)]) hx hb dX6_callOther_55 hl (by decide) rfl (fun ls hl => ?_)
        refine lv_aload_n hx hb dX6_callOther_57 rfl (lv_at hl 5 rfl) ?_
        refine gf_Frame_stop hx hb hgw iwFrame hown hK hO ha1 k99 dX6_callOther_58 ?_
        refine lv_aload_n hx hb dX6_callOther_61 rfl (lv_at hl 4 rfl) ?_
        refine gf_Walk_counts hx hb hgw iwWalk hown hK hO k17 dX6_callOther_62 ?_
        refine lv_iconst (v := 0) hx hb dX6_callOther_65 (by decide) ?_
        obtain ⟨hc16, h⟩ := ck_some h
        refine al_Counts hx hb hK hO hc16 dX6_callOther_66 ?_
        refine lv_isub hx hb dX6_callOther_67 ?_
        refine lv_i2l hx hb dX6_callOther_68 rfl ?_
        refine lv_lstore (lv' := [(8, .long (((gI st13 16 a1 0) - (gI st13 7 0 (((0 : Int32)).toNatClampNeg))).toInt64)), (7, .int (a2 / ((8 : Int32)))), (6, .int r12), (4, .long r9), (3, .ref (ad (182 + 9 * a1))), (0, .ref (ad 176)), (1, .ref (ad (179 + 9 * a1))), (2, .int a2)]) hx hb dX6_callOther_69 hl (by decide) rfl (fun ls hl => ?_)
        refine lv_lconst (v := 0) hx hb dX6_callOther_71 (by decide) ?_
        refine lv_aload_n hx hb dX6_callOther_72 rfl (lv_at hl 4 rfl) ?_
        refine lv_iconst (v := 1) hx hb dX6_callOther_73 (by decide) ?_
        obtain ⟨r17, st18, h19, h⟩ := bR_some h
        refine cw_calll (va_runV (As := [.int ((1 : Int32))]) (rest := [.long ((0 : Int64))]) ⟨hx, hb, hml, hown, hts⟩ (c_Pile_took l D A ad cA tb0 tb1 a1 ha1 ((1 : Int32)) st13 r17 st18 h19) (cwV 1 hts (gw_V w_93fed6db w_e50f7684 w_26b160a3 w_76c797a4 w_c905c078) rfl rfl rfl (by decide +kernel) ⟨Nat.le_of_ble_eq_true rfl, Nat.le_of_ble_eq_true rfl⟩) (cw_preV (k := 182 + 9 * a1) (ci := 4) hK hO rfl (by have := ha1; omega) (cc_Pile ha1)) rfl rfl hl.1 rfl (lv_room (Nat.le_of_ble_eq_true rfl)) dX6_callOther_74 ⟨Nat.zero_le _, Nat.zero_le _⟩) hO (fun H locs hO => ?_)
        refine lv_lload hx hb dX6_callOther_77 (lv_at hl 0 rfl) ?_
        refine va_mmin_long hx hb (by rw [hml]; exact hl.1.symm) hown k261 (hgw _ w_07670a37) (hgw _ w_868a9286) (hgw _ w_c0acf8a6) (Nat.le_of_ble_eq_true rfl) (Nat.le_of_ble_eq_true rfl) (Nat.zero_le _) (Nat.zero_le _) dX6_callOther_79 ?_
        refine va_mmax_long hx hb (by rw [hml]; exact hl.1.symm) hown k265 (hgw _ w_8f24d854) (hgw _ w_868a9286) (hgw _ w_ada86a80) (Nat.le_of_ble_eq_true rfl) (Nat.le_of_ble_eq_true rfl) (Nat.zero_le _) (Nat.zero_le _) dX6_callOther_82 ?_
        refine lv_l2i hx hb dX6_callOther_85 rfl ?_
        refine lv_istore (lv' := [(10, .int ((if (if (((gI st13 16 a1 0) - (gI st13 7 0 (((0 : Int32)).toNatClampNeg))).toInt64) < r17 then (((gI st13 16 a1 0) - (gI st13 7 0 (((0 : Int32)).toNatClampNeg))).toInt64) else r17) < ((0 : Int64)) then ((0 : Int64)) else (if (((gI st13 16 a1 0) - (gI st13 7 0 (((0 : Int32)).toNatClampNeg))).toInt64) < r17 then (((gI st13 16 a1 0) - (gI st13 7 0 (((0 : Int32)).toNatClampNeg))).toInt64) else r17)).toInt32)), (8, .long (((gI st13 16 a1 0) - (gI st13 7 0 (((0 : Int32)).toNatClampNeg))).toInt64)), (7, .int (a2 / ((8 : Int32)))), (6, .int r12), (4, .long r9), (3, .ref (ad (182 + 9 * a1))), (0, .ref (ad 176)), (1, .ref (ad (179 + 9 * a1))), (2, .int a2)]) hx hb dX6_callOther_86 hl (by decide) rfl (fun ls hl => ?_)
        refine lv_aload_n hx hb dX6_callOther_88 rfl (lv_at hl 6 rfl) ?_
        refine lv_aload_n hx hb dX6_callOther_89 rfl (lv_at hl 6 rfl) ?_
        refine gf_Walk_book hx hb hgw iwWalk hown hK hO k32 dX6_callOther_90 ?_
        refine lv_iload hx hb dX6_callOther_93 (lv_at hl 2 rfl) ?_
        refine lv_iload_n hx hb dX6_callOther_95 rfl (lv_at hl 8 rfl) ?_
        refine lv_bipush (v := 8) hx hb dX6_callOther_96 (by decide) ?_
        refine lv_irem hx hb dX6_callOther_98 (by decide) ?_
        obtain ⟨r20, st21, h22, h⟩ := bR_some h
        obtain ⟨hc23, h⟩ := ck_some h
        refine cw_callr (va_runV (As := [.int (a2 / ((8 : Int32))), .int (a2 - a2 / ((8 : Int32)) * ((8 : Int32)))]) (rest := [.ref (ad 176)]) ⟨hx, hb, hml, hown, hts⟩ (c_Book_find l D A ad cA tb0 tb1 (a2 / ((8 : Int32))) (a2 - a2 / ((8 : Int32)) * ((8 : Int32))) st18 r20 st21 h22) (cwV 2 hts (gw_V w_f637e4e7 w_e1327d62 w_a3354a1d w_df4c496e w_9a4e77f1) rfl rfl rfl (by decide +kernel) ⟨Nat.le_of_ble_eq_true rfl, Nat.le_of_ble_eq_true rfl⟩) (cw_preV (k := 1) (ci := 1) hK hO rfl (by decide) (cc_Book)) rfl rfl hl.1 rfl (lv_room (Nat.le_of_ble_eq_true rfl)) dX6_callOther_99 ⟨Nat.zero_le _, Nat.zero_le _⟩) hO (fun H locs hO => ?_)
        refine lv_iload hx hb dX6_callOther_102 (lv_at hl 2 rfl) ?_
        refine lv_aload_n hx hb dX6_callOther_104 rfl (lv_at hl 7 rfl) ?_
        refine gf_Frame_contract hx hb hgw iwFrame hown hK hO ha1 k214 dX6_callOther_105 ?_
        refine lv_iload hx hb dX6_callOther_108 (lv_at hl 0 rfl) ?_
        obtain ⟨r24, st25, h26, h⟩ := bR_some h
        obtain ⟨hc27, h⟩ := ck_some h
        refine cw_callr (va_runV (As := [.ref (ad (4 + 3 * r20)), .int (a2 / ((8 : Int32))), .int (gI st21 13 a1 0), .int ((if (if (((gI st13 16 a1 0) - (gI st13 7 0 (((0 : Int32)).toNatClampNeg))).toInt64) < r17 then (((gI st13 16 a1 0) - (gI st13 7 0 (((0 : Int32)).toNatClampNeg))).toInt64) else r17) < ((0 : Int64)) then ((0 : Int64)) else (if (((gI st13 16 a1 0) - (gI st13 7 0 (((0 : Int32)).toNatClampNeg))).toInt64) < r17 then (((gI st13 16 a1 0) - (gI st13 7 0 (((0 : Int32)).toNatClampNeg))).toInt64) else r17)).toInt32)]) (rest := []) ⟨hx, hb, hml, hown, hts⟩ (c_Walk_open l D A ad cA tb0 tb1 r20 (ck_lt hc23) (a2 / ((8 : Int32))) (gI st21 13 a1 0) ((if (if (((gI st13 16 a1 0) - (gI st13 7 0 (((0 : Int32)).toNatClampNeg))).toInt64) < r17 then (((gI st13 16 a1 0) - (gI st13 7 0 (((0 : Int32)).toNatClampNeg))).toInt64) else r17) < ((0 : Int64)) then ((0 : Int64)) else (if (((gI st13 16 a1 0) - (gI st13 7 0 (((0 : Int32)).toNatClampNeg))).toInt64) < r17 then (((gI st13 16 a1 0) - (gI st13 7 0 (((0 : Int32)).toNatClampNeg))).toInt64) else r17)).toInt32) st21 r24 st25 h26) (cwV 4 hts (gw_V w_5cb88b1c w_50db3de5 w_c63fa8c6 w_f8f5642f w_18b9acd0) rfl rfl rfl (by decide +kernel) ⟨Nat.le_of_ble_eq_true rfl, Nat.le_of_ble_eq_true rfl⟩) (cw_preV (k := 176) (ci := 6) hK hO rfl (by decide) (cc_Walk)) rfl rfl hl.1 rfl (lv_room (Nat.le_of_ble_eq_true rfl)) dX6_callOther_110 ⟨Nat.zero_le _, Nat.zero_le _⟩) hO (fun H locs hO => ?_)
        refine lv_astore (lv' := [(11, .ref (ad (179 + 9 * r24))), (10, .int ((if (if (((gI st13 16 a1 0) - (gI st13 7 0 (((0 : Int32)).toNatClampNeg))).toInt64) < r17 then (((gI st13 16 a1 0) - (gI st13 7 0 (((0 : Int32)).toNatClampNeg))).toInt64) else r17) < ((0 : Int64)) then ((0 : Int64)) else (if (((gI st13 16 a1 0) - (gI st13 7 0 (((0 : Int32)).toNatClampNeg))).toInt64) < r17 then (((gI st13 16 a1 0) - (gI st13 7 0 (((0 : Int32)).toNatClampNeg))).toInt64) else r17)).toInt32)), (8, .long (((gI st13 16 a1 0) - (gI st13 7 0 (((0 : Int32)).toNatClampNeg))).toInt64)), (7, .int (a2 / ((8 : Int32)))), (6, .int r12), (4, .long r9), (3, .ref (ad (182 + 9 * a1))), (0, .ref (ad 176)), (1, .ref (ad (179 + 9 * a1))), (2, .int a2)]) hx hb dX6_callOther_113 hl (by decide) rfl (fun ls hl => ?_)
        refine lv_aload_n hx hb dX6_callOther_115 rfl (lv_at hl 7 rfl) ?_
        refine gf_Walk_ledger hx hb hgw iwWalk hown hK hO k36 dX6_callOther_116 ?_
        refine lv_aload_n hx hb dX6_callOther_119 rfl (lv_at hl 8 rfl) ?_
        refine gf_Frame_contract hx hb hgw iwFrame hown hK hO ha1 k214 dX6_callOther_120 ?_
        refine lv_iload hx hb dX6_callOther_123 (lv_at hl 3 rfl) ?_
        refine lv_lload hx hb dX6_callOther_125 (lv_at hl 5 rfl) ?_
        obtain ⟨st29, h30, h⟩ := bV_some h
        refine cw_callv (va_runV (As := [.int (gI st25 13 a1 0), .int (a2 / ((8 : Int32))), .long r9]) (rest := []) ⟨hx, hb, hml, hown, hts⟩ (c_Ledger_move l D A ad cA tb0 tb1 (gI st25 13 a1 0) (a2 / ((8 : Int32))) r9 st25 st29 h30) (cwV 3 hts (gw_V w_541fbdc4 w_8f3cd1e8 w_b9687fe1 w_7f12e8e2 w_2bb9baac) rfl rfl rfl (by decide +kernel) ⟨Nat.le_of_ble_eq_true rfl, Nat.le_of_ble_eq_true rfl⟩) (cw_preV (k := 148) (ci := 3) hK hO rfl (by decide) (cc_Ledger)) rfl rfl hl.1 rfl (lv_room (Nat.le_of_ble_eq_true rfl)) dX6_callOther_127 ⟨Nat.zero_le _, Nat.zero_le _⟩) hO (fun H locs hO => ?_)
        refine lv_aload_n hx hb dX6_callOther_130 rfl (lv_at hl 6 rfl) ?_
        refine lv_iconst (v := 0) hx hb dX6_callOther_131 (by decide) ?_
        obtain ⟨r31, st32, h33, h⟩ := bR_some h
        refine cw_calli (va_runV (As := [.int ((0 : Int32))]) (rest := []) ⟨hx, hb, hml, hown, hts⟩ (c_Pile_tookKind l D A ad cA tb0 tb1 a1 ha1 ((0 : Int32)) st29 r31 st32 h33) (cwV 1 hts (gw_V w_46dcffd2 w_5c9fe01c w_ceab1f00 w_76c797a4 w_72af167e) rfl rfl rfl (by decide +kernel) ⟨Nat.le_of_ble_eq_true rfl, Nat.le_of_ble_eq_true rfl⟩) (cw_preV (k := 182 + 9 * a1) (ci := 4) hK hO rfl (by have := ha1; omega) (cc_Pile ha1)) rfl rfl hl.1 rfl (lv_room (Nat.le_of_ble_eq_true rfl)) dX6_callOther_132 ⟨Nat.zero_le _, Nat.zero_le _⟩) hO (fun H locs hO => ?_)
        refine lv_istore (lv' := [(12, .int r31), (11, .ref (ad (179 + 9 * r24))), (10, .int ((if (if (((gI st13 16 a1 0) - (gI st13 7 0 (((0 : Int32)).toNatClampNeg))).toInt64) < r17 then (((gI st13 16 a1 0) - (gI st13 7 0 (((0 : Int32)).toNatClampNeg))).toInt64) else r17) < ((0 : Int64)) then ((0 : Int64)) else (if (((gI st13 16 a1 0) - (gI st13 7 0 (((0 : Int32)).toNatClampNeg))).toInt64) < r17 then (((gI st13 16 a1 0) - (gI st13 7 0 (((0 : Int32)).toNatClampNeg))).toInt64) else r17)).toInt32)), (8, .long (((gI st13 16 a1 0) - (gI st13 7 0 (((0 : Int32)).toNatClampNeg))).toInt64)), (7, .int (a2 / ((8 : Int32)))), (6, .int r12), (4, .long r9), (3, .ref (ad (182 + 9 * a1))), (0, .ref (ad 176)), (1, .ref (ad (179 + 9 * a1))), (2, .int a2)]) hx hb dX6_callOther_135 hl (by decide) rfl (fun ls hl => ?_)
        refine lv_iload hx hb dX6_callOther_137 (lv_at hl 0 rfl) ?_
        refine lv_iconst (v := 1) hx hb dX6_callOther_139 (by decide) ?_
        refine lv_icmp_eq (tgt := 149) hx hb dX6_callOther_140 (by decide) (fun c34 => ?_) (fun c34 => ?_)
        · have h := ite_t c34 h
          refine lv_aload hx hb dX6_callOther_149 (lv_at hl 1 rfl) ?_
          refine gf_Frame_rows hx hb hgw iwFrame hown hK hO (ck_lt hc27) k168 dX6_callOther_151 ?_
          refine lv_iload hx hb dX6_callOther_154 (lv_at hl 0 rfl) ?_
          refine lv_aload_n hx hb dX6_callOther_156 rfl (lv_at hl 9 rfl) ?_
          refine gf_Frame_rows hx hb hgw iwFrame hown hK hO ha1 k168 dX6_callOther_157 ?_
          refine lv_aload_n hx hb dX6_callOther_160 rfl (lv_at hl 7 rfl) ?_
          refine lv_iconst (v := 0) hx hb dX6_callOther_161 (by decide) ?_
          obtain ⟨r35, st36, h37, h⟩ := bR_some h
          refine cw_calll (va_runV (As := [.int ((0 : Int32))]) (rest := [.ref (ad (185 + 9 * a1)), .int r31, .ref (ad (185 + 9 * r24))]) ⟨hx, hb, hml, hown, hts⟩ (c_Pile_took l D A ad cA tb0 tb1 a1 ha1 ((0 : Int32)) st32 r35 st36 h37) (cwV 1 hts (gw_V w_93fed6db w_e50f7684 w_26b160a3 w_76c797a4 w_c905c078) rfl rfl rfl (by decide +kernel) ⟨Nat.le_of_ble_eq_true rfl, Nat.le_of_ble_eq_true rfl⟩) (cw_preV (k := 182 + 9 * a1) (ci := 4) hK hO rfl (by have := ha1; omega) (cc_Pile ha1)) rfl rfl hl.1 rfl (lv_room (Nat.le_of_ble_eq_true rfl)) dX6_callOther_162 ⟨Nat.zero_le _, Nat.zero_le _⟩) hO (fun H locs hO => ?_)
          obtain ⟨r38, st39, h40, h⟩ := bR_some h
          refine cw_calli (va_runV (As := [.int r31, .ref (ad (185 + 9 * a1)), .long r35]) (rest := []) ⟨hx, hb, hml, hown, hts⟩ (c_Rows_putCopy l D A ad cA tb0 tb1 r24 (ck_lt hc27) r31 a1 ha1 r35 st36 r38 st39 h40) (cwV 3 hts (gw_V w_6264dd0f w_db39b8ad w_341fb3ad w_8bdbd0d2 w_5629de93) rfl rfl rfl (by decide +kernel) ⟨Nat.le_of_ble_eq_true rfl, Nat.le_of_ble_eq_true rfl⟩) (cw_preV (k := 185 + 9 * r24) (ci := 5) hK hO rfl (by have := (ck_lt hc27); omega) (cc_Rows (ck_lt hc27))) rfl rfl hl.1 rfl (lv_room (Nat.le_of_ble_eq_true rfl)) dX6_callOther_165 ⟨Nat.zero_le _, Nat.zero_le _⟩) hO (fun H locs hO => ?_)
          obtain ⟨rfl, rfl⟩ := ret2 h; exact cw_iret hx hb hr hlocks hO dX6_callOther_168
        · have h := ite_f c34 h
          refine lv_iload hx hb dX6_callOther_143 (lv_at hl 0 rfl) ?_
          refine lv_iconst (v := 2) hx hb dX6_callOther_145 (by decide) ?_
          refine lv_icmp_ne (tgt := 169) hx hb dX6_callOther_146 (by decide) (fun c41 => ?_) (fun c41 => ?_)
          · have h := ite_f c41 h
            refine lv_aload hx hb dX6_callOther_169 (lv_at hl 1 rfl) ?_
            refine gf_Frame_pile hx hb hgw iwFrame hown hK hO (ck_lt hc27) k62 dX6_callOther_171 ?_
            refine lv_iload hx hb dX6_callOther_174 (lv_at hl 0 rfl) ?_
            refine lv_aload_n hx hb dX6_callOther_176 rfl (lv_at hl 7 rfl) ?_
            refine lv_iconst (v := 0) hx hb dX6_callOther_177 (by decide) ?_
            obtain ⟨r42, st43, h44, h⟩ := bR_some h
            refine cw_calll (va_runV (As := [.int ((0 : Int32))]) (rest := [.int r31, .ref (ad (182 + 9 * r24))]) ⟨hx, hb, hml, hown, hts⟩ (c_Pile_took l D A ad cA tb0 tb1 a1 ha1 ((0 : Int32)) st32 r42 st43 h44) (cwV 1 hts (gw_V w_93fed6db w_e50f7684 w_26b160a3 w_76c797a4 w_c905c078) rfl rfl rfl (by decide +kernel) ⟨Nat.le_of_ble_eq_true rfl, Nat.le_of_ble_eq_true rfl⟩) (cw_preV (k := 182 + 9 * a1) (ci := 4) hK hO rfl (by have := ha1; omega) (cc_Pile ha1)) rfl rfl hl.1 rfl (lv_room (Nat.le_of_ble_eq_true rfl)) dX6_callOther_178 ⟨Nat.zero_le _, Nat.zero_le _⟩) hO (fun H locs hO => ?_)
            obtain ⟨r45, st46, h47, h⟩ := bR_some h
            refine cw_calli (va_runV (As := [.int r31, .long r42]) (rest := []) ⟨hx, hb, hml, hown, hts⟩ (c_Pile_put l D A ad cA tb0 tb1 r24 (ck_lt hc27) r31 r42 st43 r45 st46 h47) (cwV 2 hts (gw_V w_085b0eb2 w_d8d501aa w_46b57ea6 w_76c797a4 w_54242bcb) rfl rfl rfl (by decide +kernel) ⟨Nat.le_of_ble_eq_true rfl, Nat.le_of_ble_eq_true rfl⟩) (cw_preV (k := 182 + 9 * r24) (ci := 4) hK hO rfl (by have := (ck_lt hc27); omega) (cc_Pile (ck_lt hc27))) rfl rfl hl.1 rfl (lv_room (Nat.le_of_ble_eq_true rfl)) dX6_callOther_181 ⟨Nat.zero_le _, Nat.zero_le _⟩) hO (fun H locs hO => ?_)
            obtain ⟨rfl, rfl⟩ := ret2 h; exact cw_iret hx hb hr hlocks hO dX6_callOther_184
          · have h := ite_t c41 h
            refine lv_aload hx hb dX6_callOther_149 (lv_at hl 1 rfl) ?_
            refine gf_Frame_rows hx hb hgw iwFrame hown hK hO (ck_lt hc27) k168 dX6_callOther_151 ?_
            refine lv_iload hx hb dX6_callOther_154 (lv_at hl 0 rfl) ?_
            refine lv_aload_n hx hb dX6_callOther_156 rfl (lv_at hl 9 rfl) ?_
            refine gf_Frame_rows hx hb hgw iwFrame hown hK hO ha1 k168 dX6_callOther_157 ?_
            refine lv_aload_n hx hb dX6_callOther_160 rfl (lv_at hl 7 rfl) ?_
            refine lv_iconst (v := 0) hx hb dX6_callOther_161 (by decide) ?_
            obtain ⟨r48, st49, h50, h⟩ := bR_some h
            refine cw_calll (va_runV (As := [.int ((0 : Int32))]) (rest := [.ref (ad (185 + 9 * a1)), .int r31, .ref (ad (185 + 9 * r24))]) ⟨hx, hb, hml, hown, hts⟩ (c_Pile_took l D A ad cA tb0 tb1 a1 ha1 ((0 : Int32)) st32 r48 st49 h50) (cwV 1 hts (gw_V w_93fed6db w_e50f7684 w_26b160a3 w_76c797a4 w_c905c078) rfl rfl rfl (by decide +kernel) ⟨Nat.le_of_ble_eq_true rfl, Nat.le_of_ble_eq_true rfl⟩) (cw_preV (k := 182 + 9 * a1) (ci := 4) hK hO rfl (by have := ha1; omega) (cc_Pile ha1)) rfl rfl hl.1 rfl (lv_room (Nat.le_of_ble_eq_true rfl)) dX6_callOther_162 ⟨Nat.zero_le _, Nat.zero_le _⟩) hO (fun H locs hO => ?_)
            obtain ⟨r51, st52, h53, h⟩ := bR_some h
            refine cw_calli (va_runV (As := [.int r31, .ref (ad (185 + 9 * a1)), .long r48]) (rest := []) ⟨hx, hb, hml, hown, hts⟩ (c_Rows_putCopy l D A ad cA tb0 tb1 r24 (ck_lt hc27) r31 a1 ha1 r48 st49 r51 st52 h53) (cwV 3 hts (gw_V w_6264dd0f w_db39b8ad w_341fb3ad w_8bdbd0d2 w_5629de93) rfl rfl rfl (by decide +kernel) ⟨Nat.le_of_ble_eq_true rfl, Nat.le_of_ble_eq_true rfl⟩) (cw_preV (k := 185 + 9 * r24) (ci := 5) hK hO rfl (by have := (ck_lt hc27); omega) (cc_Rows (ck_lt hc27))) rfl rfl hl.1 rfl (lv_room (Nat.le_of_ble_eq_true rfl)) dX6_callOther_165 ⟨Nat.zero_le _, Nat.zero_le _⟩) hO (fun H locs hO => ?_)
            obtain ⟨rfl, rfl⟩ := ret2 h; exact cw_iret hx hb hr hlocks hO dX6_callOther_168
      · have h := ite_f c15 h
        refine lv_iload hx hb dX6_callOther_48 (lv_at hl 0 rfl) ?_
        obtain ⟨rfl, rfl⟩ := ret2 h; exact cw_iret hx hb hr hlocks hO dX6_callOther_50
    · have h := ite_t c8 h
      refine lv_iconst (v := 4) hx hb dX6_callOther_21 (by decide) ?_
      obtain ⟨rfl, rfl⟩ := ret2 h; exact cw_iret hx hb hr hlocks hO dX6_callOther_22
-- Walk perform
def j_Walk_perform (a1 : Nat) (a2 : Int32) (a3 : Int32) (st : CwS) : Option (Int32 × CwS) :=
  if a2 < ((0 : Int32)) then
    some ((12 : Int32), st)
  else
    if ((32 : Int32)) ≤ a2 then
      some ((12 : Int32), st)
    else
      if a2 < ((32 : Int32)) then
        ck (ix a2 32) <|
        ck (ix a2 32) <|
        bR (j_Pile_allows a1 (tkT a2.toNatClampNeg) (tkM a2.toNatClampNeg) st) fun r6 st7 =>
        if r6 = ((0 : Int32)) then
          some ((11 : Int32), st7)
        else
          ck (ix a2 32) <|
          bV (j_Pile_take a1 (tkT a2.toNatClampNeg) st7) fun st12 =>
          if a2 = (0 : Int32) then
            bR (j_Pile_putNumber a1 a3.toInt64 st12) fun r14 st15 =>
            some (r14, st15)
          else
          if a2 = (1 : Int32) then
            bR (j_Walk_putLeaf a1 a3 st12) fun r17 st18 =>
            some (r17, st18)
          else
          if a2 = (2 : Int32) then
            bR (j_Walk_changeLeaf a1 a3 st12) fun r20 st21 =>
            some (r20, st21)
          else
          if a2 = (3 : Int32) then
            bR (j_Walk_putTwice a1 st12) fun r23 st24 =>
            some (r23, st24)
          else
          if a2 = (4 : Int32) then
            some ((0 : Int32), st12)
          else
          if a2 = (5 : Int32) then
            bR (j_Walk_putSwapped a1 st12) fun r26 st27 =>
            some (r26, st27)
          else
          if a2 = (13 : Int32) then
            bR (j_Frame_jump a1 a3 st12) fun r29 st30 =>
            some (r29, st30)
          else
          if a2 = (14 : Int32) then
            bR (j_Walk_jumpIfZero a1 a3 st12) fun r32 st33 =>
            some (r32, st33)
          else
          if a2 = (15 : Int32) then
            bR (j_Rows_putNew a1 ((1 : Int32)) st12) fun r35 st36 =>
            some (r35, st36)
          else
          if a2 = (16 : Int32) then
            bR (j_Rows_putNew a1 ((2 : Int32)) st12) fun r38 st39 =>
            some (r38, st39)
          else
          if a2 = (17 : Int32) then
            bR (j_Rows_putElement a1 ((1 : Int32)) st12) fun r41 st42 =>
            some (r41, st42)
          else
          if a2 = (18 : Int32) then
            bR (j_Rows_putElement a1 ((2 : Int32)) st12) fun r44 st45 =>
            some (r44, st45)
          else
          if a2 = (19 : Int32) then
            bR (j_Rows_changeElement a1 ((1 : Int32)) st12) fun r47 st48 =>
            some (r47, st48)
          else
          if a2 = (20 : Int32) then
            bR (j_Rows_changeElement a1 ((2 : Int32)) st12) fun r50 st51 =>
            some (r50, st51)
          else
          if a2 = (21 : Int32) then
            bR (j_Rows_putLength a1 st12) fun r53 st54 =>
            some (r53, st54)
          else
          if a2 = (22 : Int32) then
            bR (j_Pile_put a1 ((3 : Int32)) ((0 : Int64)) st12) fun r56 st57 =>
            some (r56, st57)
          else
          if a2 = (23 : Int32) then
            bR (j_Rows_copyElements a1 st12) fun r59 st60 =>
            some (r59, st60)
          else
          if a2 = (24 : Int32) then
            bR (j_Frame_addHandler a1 a3 st12) fun r62 st63 =>
            some (r62, st63)
          else
          if a2 = (25 : Int32) then
            bR (j_Frame_dropHandler a1 st12) fun r65 st66 =>
            some (r65, st66)
          else
          if a2 = (26 : Int32) then
            if a3 < ((0 : Int32)) then
              some ((12 : Int32), st12)
            else
              if ((7 : Int32)) < a3 then
                some ((12 : Int32), st12)
              else
                some (((13 : Int32)) + a3, st12)
          else
          if a2 = (27 : Int32) then
            bR (j_Walk_giveBack a1 st12) fun r70 st71 =>
            some (r70, st71)
          else
          if a2 = (28 : Int32) then
            bR (j_Walk_tellEvent a1 st12) fun r73 st74 =>
            some (r73, st74)
          else
          if a2 = (29 : Int32) then
            bR (j_Walk_callOther a1 a3 st12) fun r76 st77 =>
            some (r76, st77)
          else
          if a2 = (30 : Int32) then
            ck (ix (gI st12 13 a1 0) 8) <|
            bR (j_Pile_putNumber a1 (gL st12 1 0 ((gI st12 13 a1 0).toNatClampNeg)) st12) fun r80 st81 =>
            some (r80, st81)
          else
          if a2 = (31 : Int32) then
            bR (j_Pile_putNumber a1 ((gI st12 14 a1 0).toInt64) st12) fun r83 st84 =>
            some (r83, st84)
          else
            bR (j_Walk_calculate a1 a2 st12) fun r86 st87 =>
            some (r86, st87)
      else
        some ((12 : Int32), st)
set_option maxHeartbeats 4000000 in
set_option maxRecDepth 100000 in
theorem c_Walk_perform (l : Launch) (D : va_G) (A : Nat → Prop) (ad : Nat → Nat) (cA : Nat → ClassId) (tb0 tb1 : Nat) (a1 : Nat) (ha1 : a1 < 10) (a2 : Int32) (a3 : Int32) (st : CwS) (r : Int32) (st' : CwS) (h : j_Walk_perform a1 a2 a3 st = some (r, st')) : Met l yX6_perform (wv yX6_perform cX6_perform 5 (some .int)) ({ frames := 4, cells := 0, slots := 0, locals := 118 }) (va_Pc [.ref (ad 176), .ref (ad (179 + 9 * a1)), .int a2, .int a3] (cwU D A ad cA tb0 tb1 st)) (cwQi D A ad cA tb0 tb1 r st') 0 0 A := by
  refine Met.ofW (cc := cX6_perform) (maxL := 5) (ret := some .int) (by decide) rfl ?_
  intro p e s m args below meth c s₁ B hml hv
  obtain ⟨rfl, hP, hK⟩ := hv
  have hx := B.exec
  have hb := B.bytes
  have hr := B.returns
  have hts := atoms_spec (ws := wv yX6_perform cX6_perform 5 (some .int)) B.pre
  have hown : s.vm.findClass RX6 = some m.cls := findClass_of_methodNamed B.named
  have hlocks := B.notSynchronized
  have hO : cwO D A ad cA s st s.heap [] := ⟨hP, va_S.rf⟩
  have hl := lv_entry ([.ref (ad 176), .ref (ad (179 + 9 * a1)), .int a2, .int a3]) (n := 5) (Nat.le_of_ble_eq_true rfl)
  rw [lg_entry_eq]
  generalize (lg_sl ([.ref (ad 176), .ref (ad (179 + 9 * a1)), .int a2, .int a3]) ++ List.replicate (5 - (lg_sl ([.ref (ad 176), .ref (ad (179 + 9 * a1)), .int a2, .int a3])).length) Slot.unset).toArray = ls at hl ⊢
  have hl : lv_has ls 5 [(0, .ref (ad 176)), (1, .ref (ad (179 + 9 * a1))), (2, .int a2), (3, .int a3)] := hl
  have _h0 := hO
  have hgw := fun (w : Cond) (h : w ∈ gwW) => hts w (List.mem_cons_of_mem _ h)
  have k36 := hgw _ w_4f54f888
  have k62 := hgw _ w_115d9ac3
  have k168 := hgw _ w_e788c032
  have k210 := hgw _ w_112bdd1c
  have k214 := hgw _ w_3799d173
  have k217 := hgw _ w_90f648af
  unfold j_Walk_perform at h
  refine lv_iload_n hx hb dX6_perform_0 rfl (lv_at hl 2 rfl) ?_
  refine lv_if_lt (tgt := 20) hx hb dX6_perform_1 (by decide) (fun c1 => ?_) (fun c1 => ?_)
  · have h := ite_t c1 h
    refine lv_bipush (v := 12) hx hb dX6_perform_20 (by decide) ?_
    obtain ⟨rfl, rfl⟩ := ret2 h; exact cw_iret hx hb hr hlocks hO dX6_perform_22
  · have h := ite_f c1 h
    refine lv_iload_n hx hb dX6_perform_4 rfl (lv_at hl 2 rfl) ?_
    refine gs_TK0 hx hb hown hK hO dX6_perform_5 ?_
    refine an_TK0 hx hb hK hO dX6_perform_8 ?_
    refine lv_icmp_ge (tgt := 20) hx hb dX6_perform_9 (by decide) (fun c2 => ?_) (fun c2 => ?_)
    · have h := ite_t c2 h
      refine lv_bipush (v := 12) hx hb dX6_perform_20 (by decide) ?_
      obtain ⟨rfl, rfl⟩ := ret2 h; exact cw_iret hx hb hr hlocks hO dX6_perform_22
    · have h := ite_f c2 h
      refine lv_iload_n hx hb dX6_perform_12 rfl (lv_at hl 2 rfl) ?_
      refine gs_TK1 hx hb hown hK hO dX6_perform_13 ?_
      refine an_TK1 hx hb hK hO dX6_perform_16 ?_
      refine lv_icmp_lt (tgt := 23) hx hb dX6_perform_17 (by decide) (fun c3 => ?_) (fun c3 => ?_)
      · have h := ite_t c3 h
        refine lv_aload_n hx hb dX6_perform_23 rfl (lv_at hl 1 rfl) ?_
        refine gf_Frame_pile hx hb hgw iwFrame hown hK hO ha1 k62 dX6_perform_24 ?_
        refine lv_astore (lv' := [(4, .ref (ad (182 + 9 * a1))), (0, .ref (ad 176)), (1, .ref (ad (179 + 9 * a1))), (2, .int a2), (3, .int a3)]) hx hb dX6_perform_27 hl (by decide) rfl (fun ls hl => ?_)
        refine lv_aload hx hb dX6_perform_29 (lv_at hl 0 rfl) ?_
        refine gs_TK0 hx hb hown hK hO dX6_perform_31 ?_
        refine lv_iload_n hx hb dX6_perform_34 rfl (lv_at hl 3 rfl) ?_
        obtain ⟨hc4, h⟩ := ck_some h
        refine al_TK0 hx hb hK hO hc4 dX6_perform_35 ?_
        refine gs_TK1 hx hb hown hK hO dX6_perform_36 ?_
        refine lv_iload_n hx hb dX6_perform_39 rfl (lv_at hl 3 rfl) ?_
        obtain ⟨hc5, h⟩ := ck_some h
        refine al_TK1 hx hb hK hO hc5 dX6_perform_40 ?_
        obtain ⟨r6, st7, h8, h⟩ := bR_some h
        refine cw_calli (va_runV (As := [.int (tkT a2.toNatClampNeg), .int (tkM a2.toNatClampNeg)]) (rest := []) ⟨hx, hb, hml, hown, hts⟩ (c_Pile_allows l D A ad cA tb0 tb1 a1 ha1 (tkT a2.toNatClampNeg) (tkM a2.toNatClampNeg) st r6 st7 h8) (cwV 2 hts (gw_V w_708fd490 w_74cf187d w_b42b31d3 w_76c797a4 w_c208274f) rfl rfl rfl (by decide +kernel) ⟨Nat.le_of_ble_eq_true rfl, Nat.le_of_ble_eq_true rfl⟩) (cw_preV (k := 182 + 9 * a1) (ci := 4) hK hO rfl (by have := ha1; omega) (cc_Pile ha1)) rfl rfl hl.1 rfl (lv_room (Nat.le_of_ble_eq_true rfl)) dX6_perform_41 ⟨Nat.zero_le _, Nat.zero_le _⟩) hO (fun H locs hO => ?_)
        refine lv_if_ne (tgt := 50) hx hb dX6_perform_44 (by decide) (fun c9 => ?_) (fun c9 => ?_)
        · have h := ite_f c9 h
          refine lv_aload hx hb dX6_perform_50 (lv_at hl 0 rfl) ?_
          refine gs_TK0 hx hb hown hK hO dX6_perform_52 ?_
          refine lv_iload_n hx hb dX6_perform_55 rfl (lv_at hl 3 rfl) ?_
          obtain ⟨hc10, h⟩ := ck_some h
          refine al_TK0 hx hb hK hO hc10 dX6_perform_56 ?_
          obtain ⟨st12, h13, h⟩ := bV_some h
          refine cw_callv (va_runV (As := [.int (tkT a2.toNatClampNeg)]) (rest := []) ⟨hx, hb, hml, hown, hts⟩ (c_Pile_take l D A ad cA tb0 tb1 a1 ha1 (tkT a2.toNatClampNeg) st7 st12 h13) (cwV 1 hts (gw_V w_ad0f8c7c w_0caad721 w_9eaa4874 w_76c797a4 w_005c6265) rfl rfl rfl (by decide +kernel) ⟨Nat.le_of_ble_eq_true rfl, Nat.le_of_ble_eq_true rfl⟩) (cw_preV (k := 182 + 9 * a1) (ci := 4) hK hO rfl (by have := ha1; omega) (cc_Pile ha1)) rfl rfl hl.1 rfl (lv_room (Nat.le_of_ble_eq_true rfl)) dX6_perform_57 ⟨Nat.zero_le _, Nat.zero_le _⟩) hO (fun H locs hO => ?_)
          refine lv_iload_n hx hb dX6_perform_60 rfl (lv_at hl 3 rfl) ?_
          by_cases c89 : a2 = (0 : Int32)
          · have h := ite_t c89 h
            refine lv_tableIn (tgt := 204) hx hb dX6_perform_61 (by rw [c89]; decide) (by rw [c89]; decide) (by rw [c89]; rfl) (by decide) ?_
            refine lv_aload hx hb dX6_perform_204 (lv_at hl 0 rfl) ?_
            refine lv_iload_n hx hb dX6_perform_206 rfl (lv_at hl 4 rfl) ?_
            refine lv_i2l hx hb dX6_perform_207 rfl ?_
            obtain ⟨r14, st15, h16, h⟩ := bR_some h
            refine cw_calli (va_runV (As := [.long a3.toInt64]) (rest := []) ⟨hx, hb, hml, hown, hts⟩ (c_Pile_putNumber l D A ad cA tb0 tb1 a1 ha1 a3.toInt64 st12 r14 st15 h16) (cwV 1 hts (gw_V w_8fddbe94 w_34c9ad22 w_9e5e849e w_76c797a4 w_03086df0) rfl rfl rfl (by decide +kernel) ⟨Nat.le_of_ble_eq_true rfl, Nat.le_of_ble_eq_true rfl⟩) (cw_preV (k := 182 + 9 * a1) (ci := 4) hK hO rfl (by have := ha1; omega) (cc_Pile ha1)) rfl rfl hl.1 rfl (lv_room (Nat.le_of_ble_eq_true rfl)) dX6_perform_208 ⟨Nat.zero_le _, Nat.zero_le _⟩) hO (fun H locs hO => ?_)
            obtain ⟨rfl, rfl⟩ := ret2 h; exact cw_iret hx hb hr hlocks hO dX6_perform_211
          have h := ite_f c89 h
          by_cases c90 : a2 = (1 : Int32)
          · have h := ite_t c90 h
            refine lv_tableIn (tgt := 212) hx hb dX6_perform_61 (by rw [c90]; decide) (by rw [c90]; decide) (by rw [c90]; rfl) (by decide) ?_
            refine lv_aload_n hx hb dX6_perform_212 rfl (lv_at hl 1 rfl) ?_
            refine lv_aload_n hx hb dX6_perform_213 rfl (lv_at hl 2 rfl) ?_
            refine lv_iload_n hx hb dX6_perform_214 rfl (lv_at hl 4 rfl) ?_
            obtain ⟨r17, st18, h19, h⟩ := bR_some h
            refine cw_calli (va_runV (As := [.ref (ad (179 + 9 * a1)), .int a3]) (rest := []) ⟨hx, hb, hml, hown, hts⟩ (c_Walk_putLeaf l D A ad cA tb0 tb1 a1 ha1 a3 st12 r17 st18 h19) (cwV 2 hts (gw_V w_9fa06c02 w_9c3c8ed7 w_17da279c w_f8f5642f w_02b90b82) rfl rfl rfl (by decide +kernel) ⟨Nat.le_of_ble_eq_true rfl, Nat.le_of_ble_eq_true rfl⟩) (cw_preV (k := 176) (ci := 6) hK hO rfl (by decide) (cc_Walk)) rfl rfl hl.1 rfl (lv_room (Nat.le_of_ble_eq_true rfl)) dX6_perform_215 ⟨Nat.zero_le _, Nat.zero_le _⟩) hO (fun H locs hO => ?_)
            obtain ⟨rfl, rfl⟩ := ret2 h; exact cw_iret hx hb hr hlocks hO dX6_perform_218
          have h := ite_f c90 h
          by_cases c91 : a2 = (2 : Int32)
          · have h := ite_t c91 h
            refine lv_tableIn (tgt := 219) hx hb dX6_perform_61 (by rw [c91]; decide) (by rw [c91]; decide) (by rw [c91]; rfl) (by decide) ?_
            refine lv_aload_n hx hb dX6_perform_219 rfl (lv_at hl 1 rfl) ?_
            refine lv_aload_n hx hb dX6_perform_220 rfl (lv_at hl 2 rfl) ?_
            refine lv_iload_n hx hb dX6_perform_221 rfl (lv_at hl 4 rfl) ?_
            obtain ⟨r20, st21, h22, h⟩ := bR_some h
            refine cw_calli (va_runV (As := [.ref (ad (179 + 9 * a1)), .int a3]) (rest := []) ⟨hx, hb, hml, hown, hts⟩ (c_Walk_changeLeaf l D A ad cA tb0 tb1 a1 ha1 a3 st12 r20 st21 h22) (cwV 2 hts (gw_V w_be1a65f2 w_e7624642 w_f9604c87 w_f8f5642f w_3931b0d4) rfl rfl rfl (by decide +kernel) ⟨Nat.le_of_ble_eq_true rfl, Nat.le_of_ble_eq_true rfl⟩) (cw_preV (k := 176) (ci := 6) hK hO rfl (by decide) (cc_Walk)) rfl rfl hl.1 rfl (lv_room (Nat.le_of_ble_eq_true rfl)) dX6_perform_222 ⟨Nat.zero_le _, Nat.zero_le _⟩) hO (fun H locs hO => ?_)
            obtain ⟨rfl, rfl⟩ := ret2 h; exact cw_iret hx hb hr hlocks hO dX6_perform_225
          have h := ite_f c91 h
          by_cases c92 : a2 = (3 : Int32)
          · have h := ite_t c92 h
            refine lv_tableIn (tgt := 226) hx hb dX6_perform_61 (by rw [c92]; decide) (by rw [c92]; decide) (by rw [c92]; rfl) (by decide) ?_
            refine lv_aload hx hb dX6_perform_226 (lv_at hl 0 rfl) ?_
            obtain ⟨r23, st24, h25, h⟩ := bR_some h
            refine cw_calli (va_runS (As := [.ref (ad (182 + 9 * a1))]) (rest := []) ⟨hx, hb, hml, hown, hts⟩ (c_Walk_putTwice l D A ad cA tb0 tb1 a1 ha1 st12 r23 st24 h25) (va_cwS 1 hts (gw_S w_0c84cd35 w_bdfe83f6 w_f8f5642f w_f33bdb01) rfl rfl rfl (by decide +kernel) ⟨Nat.le_of_ble_eq_true rfl, Nat.le_of_ble_eq_true rfl⟩) (cw_preS hK hO) rfl rfl hl.1 rfl (lv_room (Nat.le_of_ble_eq_true rfl)) dX6_perform_228 ⟨Nat.zero_le _, Nat.zero_le _⟩) hO (fun H locs hO => ?_)
            obtain ⟨rfl, rfl⟩ := ret2 h; exact cw_iret hx hb hr hlocks hO dX6_perform_231
          have h := ite_f c92 h
          by_cases c93 : a2 = (4 : Int32)
          · have h := ite_t c93 h
            refine lv_tableIn (tgt := 232) hx hb dX6_perform_61 (by rw [c93]; decide) (by rw [c93]; decide) (by rw [c93]; rfl) (by decide) ?_
            refine lv_iconst (v := 0) hx hb dX6_perform_232 (by decide) ?_
            obtain ⟨rfl, rfl⟩ := ret2 h; exact cw_iret hx hb hr hlocks hO dX6_perform_233
          have h := ite_f c93 h
          by_cases c94 : a2 = (5 : Int32)
          · have h := ite_t c94 h
            refine lv_tableIn (tgt := 234) hx hb dX6_perform_61 (by rw [c94]; decide) (by rw [c94]; decide) (by rw [c94]; rfl) (by decide) ?_
            refine lv_aload hx hb dX6_perform_234 (lv_at hl 0 rfl) ?_
            obtain ⟨r26, st27, h28, h⟩ := bR_some h
            refine cw_calli (va_runS (As := [.ref (ad (182 + 9 * a1))]) (rest := []) ⟨hx, hb, hml, hown, hts⟩ (c_Walk_putSwapped l D A ad cA tb0 tb1 a1 ha1 st12 r26 st27 h28) (va_cwS 1 hts (gw_S w_8e01b512 w_9b4eed00 w_f8f5642f w_e53ca726) rfl rfl rfl (by decide +kernel) ⟨Nat.le_of_ble_eq_true rfl, Nat.le_of_ble_eq_true rfl⟩) (cw_preS hK hO) rfl rfl hl.1 rfl (lv_room (Nat.le_of_ble_eq_true rfl)) dX6_perform_236 ⟨Nat.zero_le _, Nat.zero_le _⟩) hO (fun H locs hO => ?_)
            obtain ⟨rfl, rfl⟩ := ret2 h; exact cw_iret hx hb hr hlocks hO dX6_perform_239
          have h := ite_f c94 h
          by_cases c95 : a2 = (13 : Int32)
          · have h := ite_t c95 h
            refine lv_tableIn (tgt := 240) hx hb dX6_perform_61 (by rw [c95]; decide) (by rw [c95]; decide) (by rw [c95]; rfl) (by decide) ?_
            refine lv_aload_n hx hb dX6_perform_240 rfl (lv_at hl 2 rfl) ?_
            refine lv_iload_n hx hb dX6_perform_241 rfl (lv_at hl 4 rfl) ?_
            obtain ⟨r29, st30, h31, h⟩ := bR_some h
            refine cw_calli (va_runV (As := [.int a3]) (rest := []) ⟨hx, hb, hml, hown, hts⟩ (c_Frame_jump l D A ad cA tb0 tb1 a1 ha1 a3 st12 r29 st30 h31) (cwV 1 hts (gw_V w_9d79fd68 w_a6d3ff5e w_b84d1b6c w_aeeb22ff w_a67431f2) rfl rfl rfl (by decide +kernel) ⟨Nat.le_of_ble_eq_true rfl, Nat.le_of_ble_eq_true rfl⟩) (cw_preV (k := 179 + 9 * a1) (ci := 2) hK hO rfl (by have := ha1; omega) (cc_Frame ha1)) rfl rfl hl.1 rfl (lv_room (Nat.le_of_ble_eq_true rfl)) dX6_perform_242 ⟨Nat.zero_le _, Nat.zero_le _⟩) hO (fun H locs hO => ?_)
            obtain ⟨rfl, rfl⟩ := ret2 h; exact cw_iret hx hb hr hlocks hO dX6_perform_245
          have h := ite_f c95 h
          by_cases c96 : a2 = (14 : Int32)
          · have h := ite_t c96 h
            refine lv_tableIn (tgt := 246) hx hb dX6_perform_61 (by rw [c96]; decide) (by rw [c96]; decide) (by rw [c96]; rfl) (by decide) ?_
            refine lv_aload_n hx hb dX6_perform_246 rfl (lv_at hl 2 rfl) ?_
            refine lv_iload_n hx hb dX6_perform_247 rfl (lv_at hl 4 rfl) ?_
            obtain ⟨r32, st33, h34, h⟩ := bR_some h
            refine cw_calli (va_runS (As := [.ref (ad (179 + 9 * a1)), .int a3]) (rest := []) ⟨hx, hb, hml, hown, hts⟩ (c_Walk_jumpIfZero l D A ad cA tb0 tb1 a1 ha1 a3 st12 r32 st33 h34) (va_cwS 2 hts (gw_S w_43ca34e5 w_e97167b8 w_f8f5642f w_e2619c40) rfl rfl rfl (by decide +kernel) ⟨Nat.le_of_ble_eq_true rfl, Nat.le_of_ble_eq_true rfl⟩) (cw_preS hK hO) rfl rfl hl.1 rfl (lv_room (Nat.le_of_ble_eq_true rfl)) dX6_perform_248 ⟨Nat.zero_le _, Nat.zero_le _⟩) hO (fun H locs hO => ?_)
            obtain ⟨rfl, rfl⟩ := ret2 h; exact cw_iret hx hb hr hlocks hO dX6_perform_251
          have h := ite_f c96 h
          by_cases c97 : a2 = (15 : Int32)
          · have h := ite_t c97 h
            refine lv_tableIn (tgt := 252) hx hb dX6_perform_61 (by rw [c97]; decide) (by rw [c97]; decide) (by rw [c97]; rfl) (by decide) ?_
            refine lv_aload_n hx hb dX6_perform_252 rfl (lv_at hl 2 rfl) ?_
            refine gf_Frame_rows hx hb hgw iwFrame hown hK hO ha1 k168 dX6_perform_253 ?_
            refine lv_iconst (v := 1) hx hb dX6_perform_256 (by decide) ?_
            obtain ⟨r35, st36, h37, h⟩ := bR_some h
            refine cw_calli (va_runV (As := [.int ((1 : Int32))]) (rest := []) ⟨hx, hb, hml, hown, hts⟩ (c_Rows_putNew l D A ad cA tb0 tb1 a1 ha1 ((1 : Int32)) st12 r35 st36 h37) (cwV 1 hts (gw_V w_24f300af w_a60ccbfb w_98905c69 w_8bdbd0d2 w_c738b028) rfl rfl rfl (by decide +kernel) ⟨Nat.le_of_ble_eq_true rfl, Nat.le_of_ble_eq_true rfl⟩) (cw_preV (k := 185 + 9 * a1) (ci := 5) hK hO rfl (by have := ha1; omega) (cc_Rows ha1)) rfl rfl hl.1 rfl (lv_room (Nat.le_of_ble_eq_true rfl)) dX6_perform_257 ⟨Nat.zero_le _, Nat.zero_le _⟩) hO (fun H locs hO => ?_)
            obtain ⟨rfl, rfl⟩ := ret2 h; exact cw_iret hx hb hr hlocks hO dX6_perform_260
          have h := ite_f c97 h
          by_cases c98 : a2 = (16 : Int32)
          · have h := ite_t c98 h
            refine lv_tableIn (tgt := 261) hx hb dX6_perform_61 (by rw [c98]; decide) (by rw [c98]; decide) (by rw [c98]; rfl) (by decide) ?_
            refine lv_aload_n hx hb dX6_perform_261 rfl (lv_at hl 2 rfl) ?_
            refine gf_Frame_rows hx hb hgw iwFrame hown hK hO ha1 k168 dX6_perform_262 ?_
            refine lv_iconst (v := 2) hx hb dX6_perform_265 (by decide) ?_
            obtain ⟨r38, st39, h40, h⟩ := bR_some h
            refine cw_calli (va_runV (As := [.int ((2 : Int32))]) (rest := []) ⟨hx, hb, hml, hown, hts⟩ (c_Rows_putNew l D A ad cA tb0 tb1 a1 ha1 ((2 : Int32)) st12 r38 st39 h40) (cwV 1 hts (gw_V w_24f300af w_a60ccbfb w_98905c69 w_8bdbd0d2 w_c738b028) rfl rfl rfl (by decide +kernel) ⟨Nat.le_of_ble_eq_true rfl, Nat.le_of_ble_eq_true rfl⟩) (cw_preV (k := 185 + 9 * a1) (ci := 5) hK hO rfl (by have := ha1; omega) (cc_Rows ha1)) rfl rfl hl.1 rfl (lv_room (Nat.le_of_ble_eq_true rfl)) dX6_perform_266 ⟨Nat.zero_le _, Nat.zero_le _⟩) hO (fun H locs hO => ?_)
            obtain ⟨rfl, rfl⟩ := ret2 h; exact cw_iret hx hb hr hlocks hO dX6_perform_269
          have h := ite_f c98 h
          by_cases c99 : a2 = (17 : Int32)
          · have h := ite_t c99 h
            refine lv_tableIn (tgt := 270) hx hb dX6_perform_61 (by rw [c99]; decide) (by rw [c99]; decide) (by rw [c99]; rfl) (by decide) ?_
            refine lv_aload_n hx hb dX6_perform_270 rfl (lv_at hl 2 rfl) ?_
            refine gf_Frame_rows hx hb hgw iwFrame hown hK hO ha1 k168 dX6_perform_271 ?_
            refine lv_iconst (v := 1) hx hb dX6_perform_274 (by decide) ?_
            obtain ⟨r41, st42, h43, h⟩ := bR_some h
            refine cw_calli (va_runV (As := [.int ((1 : Int32))]) (rest := []) ⟨hx, hb, hml, hown, hts⟩ (c_Rows_putElement l D A ad cA tb0 tb1 a1 ha1 ((1 : Int32)) st12 r41 st42 h43) (cwV 1 hts (gw_V w_dd8cd33b w_6b278a84 w_2e944d78 w_8bdbd0d2 w_4d7e5faf) rfl rfl rfl (by decide +kernel) ⟨Nat.le_of_ble_eq_true rfl, Nat.le_of_ble_eq_true rfl⟩) (cw_preV (k := 185 + 9 * a1) (ci := 5) hK hO rfl (by have := ha1; omega) (cc_Rows ha1)) rfl rfl hl.1 rfl (lv_room (Nat.le_of_ble_eq_true rfl)) dX6_perform_275 ⟨Nat.zero_le _, Nat.zero_le _⟩) hO (fun H locs hO => ?_)
            obtain ⟨rfl, rfl⟩ := ret2 h; exact cw_iret hx hb hr hlocks hO dX6_perform_278
          have h := ite_f c99 h
          by_cases c100 : a2 = (18 : Int32)
          · have h := ite_t c100 h
            refine lv_tableIn (tgt := 279) hx hb dX6_perform_61 (by rw [c100]; decide) (by rw [c100]; decide) (by rw [c100]; rfl) (by decide) ?_
            refine lv_aload_n hx hb dX6_perform_279 rfl (lv_at hl 2 rfl) ?_
            refine gf_Frame_rows hx hb hgw iwFrame hown hK hO ha1 k168 dX6_perform_280 ?_
            refine lv_iconst (v := 2) hx hb dX6_perform_283 (by decide) ?_
            obtain ⟨r44, st45, h46, h⟩ := bR_some h
            refine cw_calli (va_runV (As := [.int ((2 : Int32))]) (rest := []) ⟨hx, hb, hml, hown, hts⟩ (c_Rows_putElement l D A ad cA tb0 tb1 a1 ha1 ((2 : Int32)) st12 r44 st45 h46) (cwV 1 hts (gw_V w_dd8cd33b w_6b278a84 w_2e944d78 w_8bdbd0d2 w_4d7e5faf) rfl rfl rfl (by decide +kernel) ⟨Nat.le_of_ble_eq_true rfl, Nat.le_of_ble_eq_true rfl⟩) (cw_preV (k := 185 + 9 * a1) (ci := 5) hK hO rfl (by have := ha1; omega) (cc_Rows ha1)) rfl rfl hl.1 rfl (lv_room (Nat.le_of_ble_eq_true rfl)) dX6_perform_284 ⟨Nat.zero_le _, Nat.zero_le _⟩) hO (fun H locs hO => ?_)
            obtain ⟨rfl, rfl⟩ := ret2 h; exact cw_iret hx hb hr hlocks hO dX6_perform_287
          have h := ite_f c100 h
          by_cases c101 : a2 = (19 : Int32)
          · have h := ite_t c101 h
            refine lv_tableIn (tgt := 288) hx hb dX6_perform_61 (by rw [c101]; decide) (by rw [c101]; decide) (by rw [c101]; rfl) (by decide) ?_
            refine lv_aload_n hx hb dX6_perform_288 rfl (lv_at hl 2 rfl) ?_
            refine gf_Frame_rows hx hb hgw iwFrame hown hK hO ha1 k168 dX6_perform_289 ?_
            refine lv_iconst (v := 1) hx hb dX6_perform_292 (by decide) ?_
            obtain ⟨r47, st48, h49, h⟩ := bR_some h
            refine cw_calli (va_runV (As := [.int ((1 : Int32))]) (rest := []) ⟨hx, hb, hml, hown, hts⟩ (c_Rows_changeElement l D A ad cA tb0 tb1 a1 ha1 ((1 : Int32)) st12 r47 st48 h49) (cwV 1 hts (gw_V w_810b722e w_7fed198a w_e57cdd68 w_8bdbd0d2 w_c81fd045) rfl rfl rfl (by decide +kernel) ⟨Nat.le_of_ble_eq_true rfl, Nat.le_of_ble_eq_true rfl⟩) (cw_preV (k := 185 + 9 * a1) (ci := 5) hK hO rfl (by have := ha1; omega) (cc_Rows ha1)) rfl rfl hl.1 rfl (lv_room (Nat.le_of_ble_eq_true rfl)) dX6_perform_293 ⟨Nat.zero_le _, Nat.zero_le _⟩) hO (fun H locs hO => ?_)
            obtain ⟨rfl, rfl⟩ := ret2 h; exact cw_iret hx hb hr hlocks hO dX6_perform_296
          have h := ite_f c101 h
          by_cases c102 : a2 = (20 : Int32)
          · have h := ite_t c102 h
            refine lv_tableIn (tgt := 297) hx hb dX6_perform_61 (by rw [c102]; decide) (by rw [c102]; decide) (by rw [c102]; rfl) (by decide) ?_
            refine lv_aload_n hx hb dX6_perform_297 rfl (lv_at hl 2 rfl) ?_
            refine gf_Frame_rows hx hb hgw iwFrame hown hK hO ha1 k168 dX6_perform_298 ?_
            refine lv_iconst (v := 2) hx hb dX6_perform_301 (by decide) ?_
            obtain ⟨r50, st51, h52, h⟩ := bR_some h
            refine cw_calli (va_runV (As := [.int ((2 : Int32))]) (rest := []) ⟨hx, hb, hml, hown, hts⟩ (c_Rows_changeElement l D A ad cA tb0 tb1 a1 ha1 ((2 : Int32)) st12 r50 st51 h52) (cwV 1 hts (gw_V w_810b722e w_7fed198a w_e57cdd68 w_8bdbd0d2 w_c81fd045) rfl rfl rfl (by decide +kernel) ⟨Nat.le_of_ble_eq_true rfl, Nat.le_of_ble_eq_true rfl⟩) (cw_preV (k := 185 + 9 * a1) (ci := 5) hK hO rfl (by have := ha1; omega) (cc_Rows ha1)) rfl rfl hl.1 rfl (lv_room (Nat.le_of_ble_eq_true rfl)) dX6_perform_302 ⟨Nat.zero_le _, Nat.zero_le _⟩) hO (fun H locs hO => ?_)
            obtain ⟨rfl, rfl⟩ := ret2 h; exact cw_iret hx hb hr hlocks hO dX6_perform_305
          have h := ite_f c102 h
          by_cases c103 : a2 = (21 : Int32)
          · have h := ite_t c103 h
            refine lv_tableIn (tgt := 306) hx hb dX6_perform_61 (by rw [c103]; decide) (by rw [c103]; decide) (by rw [c103]; rfl) (by decide) ?_
            refine lv_aload_n hx hb dX6_perform_306 rfl (lv_at hl 2 rfl) ?_
            refine gf_Frame_rows hx hb hgw iwFrame hown hK hO ha1 k168 dX6_perform_307 ?_
            obtain ⟨r53, st54, h55, h⟩ := bR_some h
            refine cw_calli (va_runV (As := []) (rest := []) ⟨hx, hb, hml, hown, hts⟩ (c_Rows_putLength l D A ad cA tb0 tb1 a1 ha1 st12 r53 st54 h55) (cwV 0 hts (gw_V w_c261932e w_edbe232a w_43a81a0f w_8bdbd0d2 w_4a66d9a4) rfl rfl rfl (by decide +kernel) ⟨Nat.le_of_ble_eq_true rfl, Nat.le_of_ble_eq_true rfl⟩) (cw_preV (k := 185 + 9 * a1) (ci := 5) hK hO rfl (by have := ha1; omega) (cc_Rows ha1)) rfl rfl hl.1 rfl (lv_room (Nat.le_of_ble_eq_true rfl)) dX6_perform_310 ⟨Nat.zero_le _, Nat.zero_le _⟩) hO (fun H locs hO => ?_)
            obtain ⟨rfl, rfl⟩ := ret2 h; exact cw_iret hx hb hr hlocks hO dX6_perform_313
          have h := ite_f c103 h
          by_cases c104 : a2 = (22 : Int32)
          · have h := ite_t c104 h
            refine lv_tableIn (tgt := 314) hx hb dX6_perform_61 (by rw [c104]; decide) (by rw [c104]; decide) (by rw [c104]; rfl) (by decide) ?_
            refine lv_aload hx hb dX6_perform_314 (lv_at hl 0 rfl) ?_
            refine lv_iconst (v := 3) hx hb dX6_perform_316 (by decide) ?_
            refine lv_lconst (v := 0) hx hb dX6_perform_317 (by decide) ?_
            obtain ⟨r56, st57, h58, h⟩ := bR_some h
            refine cw_calli (va_runV (As := [.int ((3 : Int32)), .long ((0 : Int64))]) (rest := []) ⟨hx, hb, hml, hown, hts⟩ (c_Pile_put l D A ad cA tb0 tb1 a1 ha1 ((3 : Int32)) ((0 : Int64)) st12 r56 st57 h58) (cwV 2 hts (gw_V w_085b0eb2 w_d8d501aa w_46b57ea6 w_76c797a4 w_54242bcb) rfl rfl rfl (by decide +kernel) ⟨Nat.le_of_ble_eq_true rfl, Nat.le_of_ble_eq_true rfl⟩) (cw_preV (k := 182 + 9 * a1) (ci := 4) hK hO rfl (by have := ha1; omega) (cc_Pile ha1)) rfl rfl hl.1 rfl (lv_room (Nat.le_of_ble_eq_true rfl)) dX6_perform_318 ⟨Nat.zero_le _, Nat.zero_le _⟩) hO (fun H locs hO => ?_)
            obtain ⟨rfl, rfl⟩ := ret2 h; exact cw_iret hx hb hr hlocks hO dX6_perform_321
          have h := ite_f c104 h
          by_cases c105 : a2 = (23 : Int32)
          · have h := ite_t c105 h
            refine lv_tableIn (tgt := 322) hx hb dX6_perform_61 (by rw [c105]; decide) (by rw [c105]; decide) (by rw [c105]; rfl) (by decide) ?_
            refine lv_aload_n hx hb dX6_perform_322 rfl (lv_at hl 2 rfl) ?_
            refine gf_Frame_rows hx hb hgw iwFrame hown hK hO ha1 k168 dX6_perform_323 ?_
            obtain ⟨r59, st60, h61, h⟩ := bR_some h
            refine cw_calli (va_runV (As := []) (rest := []) ⟨hx, hb, hml, hown, hts⟩ (c_Rows_copyElements l D A ad cA tb0 tb1 a1 ha1 st12 r59 st60 h61) (cwV 0 hts (gw_V w_1687bed3 w_2ca43a6e w_e855bd6f w_8bdbd0d2 w_b269f87b) rfl rfl rfl (by decide +kernel) ⟨Nat.le_of_ble_eq_true rfl, Nat.le_of_ble_eq_true rfl⟩) (cw_preV (k := 185 + 9 * a1) (ci := 5) hK hO rfl (by have := ha1; omega) (cc_Rows ha1)) rfl rfl hl.1 rfl (lv_room (Nat.le_of_ble_eq_true rfl)) dX6_perform_326 ⟨Nat.zero_le _, Nat.zero_le _⟩) hO (fun H locs hO => ?_)
            obtain ⟨rfl, rfl⟩ := ret2 h; exact cw_iret hx hb hr hlocks hO dX6_perform_329
          have h := ite_f c105 h
          by_cases c106 : a2 = (24 : Int32)
          · have h := ite_t c106 h
            refine lv_tableIn (tgt := 330) hx hb dX6_perform_61 (by rw [c106]; decide) (by rw [c106]; decide) (by rw [c106]; rfl) (by decide) ?_
            refine lv_aload_n hx hb dX6_perform_330 rfl (lv_at hl 2 rfl) ?_
            refine lv_iload_n hx hb dX6_perform_331 rfl (lv_at hl 4 rfl) ?_
            obtain ⟨r62, st63, h64, h⟩ := bR_some h
            refine cw_calli (va_runV (As := [.int a3]) (rest := []) ⟨hx, hb, hml, hown, hts⟩ (c_Frame_addHandler l D A ad cA tb0 tb1 a1 ha1 a3 st12 r62 st63 h64) (cwV 1 hts (gw_V w_8c4e9d1d w_ca9fc9a0 w_36f2d12d w_aeeb22ff w_3a4480d8) rfl rfl rfl (by decide +kernel) ⟨Nat.le_of_ble_eq_true rfl, Nat.le_of_ble_eq_true rfl⟩) (cw_preV (k := 179 + 9 * a1) (ci := 2) hK hO rfl (by have := ha1; omega) (cc_Frame ha1)) rfl rfl hl.1 rfl (lv_room (Nat.le_of_ble_eq_true rfl)) dX6_perform_332 ⟨Nat.zero_le _, Nat.zero_le _⟩) hO (fun H locs hO => ?_)
            obtain ⟨rfl, rfl⟩ := ret2 h; exact cw_iret hx hb hr hlocks hO dX6_perform_335
          have h := ite_f c106 h
          by_cases c107 : a2 = (25 : Int32)
          · have h := ite_t c107 h
            refine lv_tableIn (tgt := 336) hx hb dX6_perform_61 (by rw [c107]; decide) (by rw [c107]; decide) (by rw [c107]; rfl) (by decide) ?_
            refine lv_aload_n hx hb dX6_perform_336 rfl (lv_at hl 2 rfl) ?_
            obtain ⟨r65, st66, h67, h⟩ := bR_some h
            refine cw_calli (va_runV (As := []) (rest := []) ⟨hx, hb, hml, hown, hts⟩ (c_Frame_dropHandler l D A ad cA tb0 tb1 a1 ha1 st12 r65 st66 h67) (cwV 0 hts (gw_V w_b14f5273 w_dbb05d45 w_6187071a w_aeeb22ff w_3cc04f3d) rfl rfl rfl (by decide +kernel) ⟨Nat.le_of_ble_eq_true rfl, Nat.le_of_ble_eq_true rfl⟩) (cw_preV (k := 179 + 9 * a1) (ci := 2) hK hO rfl (by have := ha1; omega) (cc_Frame ha1)) rfl rfl hl.1 rfl (lv_room (Nat.le_of_ble_eq_true rfl)) dX6_perform_337 ⟨Nat.zero_le _, Nat.zero_le _⟩) hO (fun H locs hO => ?_)
            obtain ⟨rfl, rfl⟩ := ret2 h; exact cw_iret hx hb hr hlocks hO dX6_perform_340
          have h := ite_f c107 h
          by_cases c108 : a2 = (26 : Int32)
          · have h := ite_t c108 h
            refine lv_tableIn (tgt := 341) hx hb dX6_perform_61 (by rw [c108]; decide) (by rw [c108]; decide) (by rw [c108]; rfl) (by decide) ?_
            refine lv_iload_n hx hb dX6_perform_341 rfl (lv_at hl 4 rfl) ?_
            refine lv_if_lt (tgt := 358) hx hb dX6_perform_342 (by decide) (fun c68 => ?_) (fun c68 => ?_)
            · have h := ite_t c68 h
              refine lv_bipush (v := 12) hx hb dX6_perform_358 (by decide) ?_
              obtain ⟨rfl, rfl⟩ := ret2 h; exact cw_iret hx hb hr hlocks hO dX6_perform_360
            · have h := ite_f c68 h
              refine lv_iload_n hx hb dX6_perform_345 rfl (lv_at hl 4 rfl) ?_
              refine lv_bipush (v := 7) hx hb dX6_perform_346 (by decide) ?_
              refine lv_icmp_gt (tgt := 358) hx hb dX6_perform_348 (by decide) (fun c69 => ?_) (fun c69 => ?_)
              · have h := ite_t c69 h
                refine lv_bipush (v := 12) hx hb dX6_perform_358 (by decide) ?_
                obtain ⟨rfl, rfl⟩ := ret2 h; exact cw_iret hx hb hr hlocks hO dX6_perform_360
              · have h := ite_f c69 h
                refine lv_bipush (v := 13) hx hb dX6_perform_351 (by decide) ?_
                refine lv_iload_n hx hb dX6_perform_353 rfl (lv_at hl 4 rfl) ?_
                refine lv_iadd hx hb dX6_perform_354 ?_
                refine lv_goto (tgt := 360) hx hb dX6_perform_355 (by decide) ?_
                obtain ⟨rfl, rfl⟩ := ret2 h; exact cw_iret hx hb hr hlocks hO dX6_perform_360
          have h := ite_f c108 h
          by_cases c109 : a2 = (27 : Int32)
          · have h := ite_t c109 h
            refine lv_tableIn (tgt := 361) hx hb dX6_perform_61 (by rw [c109]; decide) (by rw [c109]; decide) (by rw [c109]; rfl) (by decide) ?_
            refine lv_aload_n hx hb dX6_perform_361 rfl (lv_at hl 1 rfl) ?_
            refine lv_aload hx hb dX6_perform_362 (lv_at hl 0 rfl) ?_
            obtain ⟨r70, st71, h72, h⟩ := bR_some h
            refine cw_calli (va_runV (As := [.ref (ad (182 + 9 * a1))]) (rest := []) ⟨hx, hb, hml, hown, hts⟩ (c_Walk_giveBack l D A ad cA tb0 tb1 a1 ha1 st12 r70 st71 h72) (cwV 1 hts (gw_V w_1579db53 w_72c4a5a0 w_509e588c w_f8f5642f w_bffa048c) rfl rfl rfl (by decide +kernel) ⟨Nat.le_of_ble_eq_true rfl, Nat.le_of_ble_eq_true rfl⟩) (cw_preV (k := 176) (ci := 6) hK hO rfl (by decide) (cc_Walk)) rfl rfl hl.1 rfl (lv_room (Nat.le_of_ble_eq_true rfl)) dX6_perform_364 ⟨Nat.zero_le _, Nat.zero_le _⟩) hO (fun H locs hO => ?_)
            obtain ⟨rfl, rfl⟩ := ret2 h; exact cw_iret hx hb hr hlocks hO dX6_perform_367
          have h := ite_f c109 h
          by_cases c110 : a2 = (28 : Int32)
          · have h := ite_t c110 h
            refine lv_tableIn (tgt := 368) hx hb dX6_perform_61 (by rw [c110]; decide) (by rw [c110]; decide) (by rw [c110]; rfl) (by decide) ?_
            refine lv_aload_n hx hb dX6_perform_368 rfl (lv_at hl 1 rfl) ?_
            refine lv_aload_n hx hb dX6_perform_369 rfl (lv_at hl 2 rfl) ?_
            obtain ⟨r73, st74, h75, h⟩ := bR_some h
            refine cw_calli (va_runV (As := [.ref (ad (179 + 9 * a1))]) (rest := []) ⟨hx, hb, hml, hown, hts⟩ (c_Walk_tellEvent l D A ad cA tb0 tb1 a1 ha1 st12 r73 st74 h75) (cwV 1 hts (gw_V w_5b211d43 w_4b8ecf71 w_ac717402 w_f8f5642f w_03222456) rfl rfl rfl (by decide +kernel) ⟨Nat.le_of_ble_eq_true rfl, Nat.le_of_ble_eq_true rfl⟩) (cw_preV (k := 176) (ci := 6) hK hO rfl (by decide) (cc_Walk)) rfl rfl hl.1 rfl (lv_room (Nat.le_of_ble_eq_true rfl)) dX6_perform_370 ⟨Nat.zero_le _, Nat.zero_le _⟩) hO (fun H locs hO => ?_)
            obtain ⟨rfl, rfl⟩ := ret2 h; exact cw_iret hx hb hr hlocks hO dX6_perform_373
          have h := ite_f c110 h
          by_cases c111 : a2 = (29 : Int32)
          · have h := ite_t c111 h
            refine lv_tableIn (tgt := 374) hx hb dX6_perform_61 (by rw [c111]; decide) (by rw [c111]; decide) (by rw [c111]; rfl) (by decide) ?_
            refine lv_aload_n hx hb dX6_perform_374 rfl (lv_at hl 1 rfl) ?_
            refine lv_aload_n hx hb dX6_perform_375 rfl (lv_at hl 2 rfl) ?_
            refine lv_iload_n hx hb dX6_perform_376 rfl (lv_at hl 4 rfl) ?_
            obtain ⟨r76, st77, h78, h⟩ := bR_some h
            refine cw_calli (va_runV (As := [.ref (ad (179 + 9 * a1)), .int a3]) (rest := []) ⟨hx, hb, hml, hown, hts⟩ (c_Walk_callOther l D A ad cA tb0 tb1 a1 ha1 a3 st12 r76 st77 h78) (cwV 2 hts (gw_V w_59a569a3 w_baf9a321 w_6651d5c2 w_f8f5642f w_6b25aad2) rfl rfl rfl (by decide +kernel) ⟨Nat.le_of_ble_eq_true rfl, Nat.le_of_ble_eq_true rfl⟩) (cw_preV (k := 176) (ci := 6) hK hO rfl (by decide) (cc_Walk)) rfl rfl hl.1 rfl (lv_room (Nat.le_of_ble_eq_true rfl)) dX6_perform_377 ⟨Nat.zero_le _, Nat.zero_le _⟩) hO (fun H locs hO => ?_)
            obtain ⟨rfl, rfl⟩ := ret2 h; exact cw_iret hx hb hr hlocks hO dX6_perform_380
          have h := ite_f c111 h
          by_cases c112 : a2 = (30 : Int32)
          · have h := ite_t c112 h
            refine lv_tableIn (tgt := 381) hx hb dX6_perform_61 (by rw [c112]; decide) (by rw [c112]; decide) (by rw [c112]; rfl) (by decide) ?_
            refine lv_aload hx hb dX6_perform_381 (lv_at hl 0 rfl) ?_
            refine lv_aload_n hx hb dX6_perform_383 rfl (lv_at hl 1 rfl) ?_
            refine gf_Walk_ledger hx hb hgw iwWalk hown hK hO k36 dX6_perform_384 ?_
            refine gf_Ledger_balances hx hb hgw iwLedger hown hK hO k210 dX6_perform_387 ?_
            refine lv_aload_n hx hb dX6_perform_390 rfl (lv_at hl 2 rfl) ?_
            refine gf_Frame_contract hx hb hgw iwFrame hown hK hO ha1 k214 dX6_perform_391 ?_
            obtain ⟨hc79, h⟩ := ck_some h
            refine al_Bals hx hb hK hO hc79 dX6_perform_394 ?_
            obtain ⟨r80, st81, h82, h⟩ := bR_some h
            refine cw_calli (va_runV (As := [.long (gL st12 1 0 ((gI st12 13 a1 0).toNatClampNeg))]) (rest := []) ⟨hx, hb, hml, hown, hts⟩ (c_Pile_putNumber l D A ad cA tb0 tb1 a1 ha1 (gL st12 1 0 ((gI st12 13 a1 0).toNatClampNeg)) st12 r80 st81 h82) (cwV 1 hts (gw_V w_8fddbe94 w_34c9ad22 w_9e5e849e w_76c797a4 w_03086df0) rfl rfl rfl (by decide +kernel) ⟨Nat.le_of_ble_eq_true rfl, Nat.le_of_ble_eq_true rfl⟩) (cw_preV (k := 182 + 9 * a1) (ci := 4) hK hO rfl (by have := ha1; omega) (cc_Pile ha1)) rfl rfl hl.1 rfl (lv_room (Nat.le_of_ble_eq_true rfl)) dX6_perform_395 ⟨Nat.zero_le _, Nat.zero_le _⟩) hO (fun H locs hO => ?_)
            obtain ⟨rfl, rfl⟩ := ret2 h; exact cw_iret hx hb hr hlocks hO dX6_perform_398
          have h := ite_f c112 h
          by_cases c113 : a2 = (31 : Int32)
          · have h := ite_t c113 h
            refine lv_tableIn (tgt := 399) hx hb dX6_perform_61 (by rw [c113]; decide) (by rw [c113]; decide) (by rw [c113]; rfl) (by decide) ?_
            refine lv_aload hx hb dX6_perform_399 (lv_at hl 0 rfl) ?_
            refine lv_aload_n hx hb dX6_perform_401 rfl (lv_at hl 2 rfl) ?_
            refine gf_Frame_caller hx hb hgw iwFrame hown hK hO ha1 k217 dX6_perform_402 ?_
            refine lv_i2l hx hb dX6_perform_405 rfl ?_
            obtain ⟨r83, st84, h85, h⟩ := bR_some h
            refine cw_calli (va_runV (As := [.long ((gI st12 14 a1 0).toInt64)]) (rest := []) ⟨hx, hb, hml, hown, hts⟩ (c_Pile_putNumber l D A ad cA tb0 tb1 a1 ha1 ((gI st12 14 a1 0).toInt64) st12 r83 st84 h85) (cwV 1 hts (gw_V w_8fddbe94 w_34c9ad22 w_9e5e849e w_76c797a4 w_03086df0) rfl rfl rfl (by decide +kernel) ⟨Nat.le_of_ble_eq_true rfl, Nat.le_of_ble_eq_true rfl⟩) (cw_preV (k := 182 + 9 * a1) (ci := 4) hK hO rfl (by have := ha1; omega) (cc_Pile ha1)) rfl rfl hl.1 rfl (lv_room (Nat.le_of_ble_eq_true rfl)) dX6_perform_406 ⟨Nat.zero_le _, Nat.zero_le _⟩) hO (fun H locs hO => ?_)
            obtain ⟨rfl, rfl⟩ := ret2 h; exact cw_iret hx hb hr hlocks hO dX6_perform_409
          have h := ite_f c113 h
          refine cw_tableD (tgt := 410) hx hb dX6_perform_61 (by
            have e0 := lv_neT (a := 0) c89 (by decide)
            have e1 := lv_neT (a := 1) c90 (by decide)
            have e2 := lv_neT (a := 2) c91 (by decide)
            have e3 := lv_neT (a := 3) c92 (by decide)
            have e4 := lv_neT (a := 4) c93 (by decide)
            have e5 := lv_neT (a := 5) c94 (by decide)
            have e6 := lv_neT (a := 13) c95 (by decide)
            have e7 := lv_neT (a := 14) c96 (by decide)
            have e8 := lv_neT (a := 15) c97 (by decide)
            have e9 := lv_neT (a := 16) c98 (by decide)
            have e10 := lv_neT (a := 17) c99 (by decide)
            have e11 := lv_neT (a := 18) c100 (by decide)
            have e12 := lv_neT (a := 19) c101 (by decide)
            have e13 := lv_neT (a := 20) c102 (by decide)
            have e14 := lv_neT (a := 21) c103 (by decide)
            have e15 := lv_neT (a := 22) c104 (by decide)
            have e16 := lv_neT (a := 23) c105 (by decide)
            have e17 := lv_neT (a := 24) c106 (by decide)
            have e18 := lv_neT (a := 25) c107 (by decide)
            have e19 := lv_neT (a := 26) c108 (by decide)
            have e20 := lv_neT (a := 27) c109 (by decide)
            have e21 := lv_neT (a := 28) c110 (by decide)
            have e22 := lv_neT (a := 29) c111 (by decide)
            have e23 := lv_neT (a := 30) c112 (by decide)
            have e24 := lv_neT (a := 31) c113 (by decide)
            by_cases q1 : a2.toInt < 0
            · exact Or.inl q1
            by_cases q2 : (31 : Int) < a2.toInt
            · exact Or.inr (Or.inl q2)
            have q3 : a2.toInt = 6 ∨ a2.toInt = 7 ∨ a2.toInt = 8 ∨ a2.toInt = 9 ∨ a2.toInt = 10 ∨ a2.toInt = 11 ∨ a2.toInt = 12 := by omega
            rcases q3 with q3 | q3 | q3 | q3 | q3 | q3 | q3 <;> (rw [q3]; exact Or.inr (Or.inr rfl))) (by decide) ?_
          refine lv_aload hx hb dX6_perform_410 (lv_at hl 0 rfl) ?_
          refine lv_iload_n hx hb dX6_perform_412 rfl (lv_at hl 3 rfl) ?_
          obtain ⟨r86, st87, h88, h⟩ := bR_some h
          refine cw_calli (va_runS (As := [.ref (ad (182 + 9 * a1)), .int a2]) (rest := []) ⟨hx, hb, hml, hown, hts⟩ (c_Walk_calculate l D A ad cA tb0 tb1 a1 ha1 a2 st12 r86 st87 h88) (va_cwS 2 hts (gw_S w_27e24a95 w_035a230a w_f8f5642f w_7a0196f1) rfl rfl rfl (by decide +kernel) ⟨Nat.le_of_ble_eq_true rfl, Nat.le_of_ble_eq_true rfl⟩) (cw_preS hK hO) rfl rfl hl.1 rfl (lv_room (Nat.le_of_ble_eq_true rfl)) dX6_perform_413 ⟨Nat.zero_le _, Nat.zero_le _⟩) hO (fun H locs hO => ?_)
          obtain ⟨rfl, rfl⟩ := ret2 h; exact cw_iret hx hb hr hlocks hO dX6_perform_416
        · have h := ite_t c9 h
          refine lv_bipush (v := 11) hx hb dX6_perform_47 (by decide) ?_
          obtain ⟨rfl, rfl⟩ := ret2 h; exact cw_iret hx hb hr hlocks hO dX6_perform_49
      · have h := ite_f c3 h
        refine lv_bipush (v := 12) hx hb dX6_perform_20 (by decide) ?_
        obtain ⟨rfl, rfl⟩ := ret2 h; exact cw_iret hx hb hr hlocks hO dX6_perform_22
-- Walk advance
def j_Walk_advance (a1 : Nat) (st : CwS) : Option CwS :=
  bR (j_Frame_isAtEnd a1 st) fun r1 st2 =>
  if r1 = ((0 : Int32)) then
    ck (ix ((0 : Int32)) 5) <|
    if (gI st2 7 0 (((0 : Int32)).toNatClampNeg)) < (gI st2 16 a1 0) then
      ck (ix ((0 : Int32)) 5) <|
      ck (ix ((0 : Int32)) 5) <|
      ck (decide ((gR (sI (sI st2 7 0 (((0 : Int32)).toNatClampNeg) ((gI st2 7 0 (((0 : Int32)).toNatClampNeg)) + ((1 : Int32)))) 15 a1 0 ((gI (sI st2 7 0 (((0 : Int32)).toNatClampNeg) ((gI st2 7 0 (((0 : Int32)).toNatClampNeg)) + ((1 : Int32)))) 15 a1 0) + ((1 : Int32)))) 0 a1) < 48)) <|
      ck (ix (gI (sI st2 7 0 (((0 : Int32)).toNatClampNeg) ((gI st2 7 0 (((0 : Int32)).toNatClampNeg)) + ((1 : Int32)))) 15 a1 0) 24) <|
      ck (decide ((gR (sI (sI st2 7 0 (((0 : Int32)).toNatClampNeg) ((gI st2 7 0 (((0 : Int32)).toNatClampNeg)) + ((1 : Int32)))) 15 a1 0 ((gI (sI st2 7 0 (((0 : Int32)).toNatClampNeg) ((gI st2 7 0 (((0 : Int32)).toNatClampNeg)) + ((1 : Int32)))) 15 a1 0) + ((1 : Int32)))) 0 a1) < 48)) <|
      ck (ix (gI (sI st2 7 0 (((0 : Int32)).toNatClampNeg) ((gI st2 7 0 (((0 : Int32)).toNatClampNeg)) + ((1 : Int32)))) 15 a1 0) 24) <|
      bR (j_Walk_perform a1 (gI (sI (sI st2 7 0 (((0 : Int32)).toNatClampNeg) ((gI st2 7 0 (((0 : Int32)).toNatClampNeg)) + ((1 : Int32)))) 15 a1 0 ((gI (sI st2 7 0 (((0 : Int32)).toNatClampNeg) ((gI st2 7 0 (((0 : Int32)).toNatClampNeg)) + ((1 : Int32)))) 15 a1 0) + ((1 : Int32)))) 0 (gR (sI (sI st2 7 0 (((0 : Int32)).toNatClampNeg) ((gI st2 7 0 (((0 : Int32)).toNatClampNeg)) + ((1 : Int32)))) 15 a1 0 ((gI (sI st2 7 0 (((0 : Int32)).toNatClampNeg) ((gI st2 7 0 (((0 : Int32)).toNatClampNeg)) + ((1 : Int32)))) 15 a1 0) + ((1 : Int32)))) 0 a1) ((gI (sI st2 7 0 (((0 : Int32)).toNatClampNeg) ((gI st2 7 0 (((0 : Int32)).toNatClampNeg)) + ((1 : Int32)))) 15 a1 0).toNatClampNeg)) (gI (sI (sI st2 7 0 (((0 : Int32)).toNatClampNeg) ((gI st2 7 0 (((0 : Int32)).toNatClampNeg)) + ((1 : Int32)))) 15 a1 0 ((gI (sI st2 7 0 (((0 : Int32)).toNatClampNeg) ((gI st2 7 0 (((0 : Int32)).toNatClampNeg)) + ((1 : Int32)))) 15 a1 0) + ((1 : Int32)))) 1 (gR (sI (sI st2 7 0 (((0 : Int32)).toNatClampNeg) ((gI st2 7 0 (((0 : Int32)).toNatClampNeg)) + ((1 : Int32)))) 15 a1 0 ((gI (sI st2 7 0 (((0 : Int32)).toNatClampNeg) ((gI st2 7 0 (((0 : Int32)).toNatClampNeg)) + ((1 : Int32)))) 15 a1 0) + ((1 : Int32)))) 0 a1) ((gI (sI st2 7 0 (((0 : Int32)).toNatClampNeg) ((gI st2 7 0 (((0 : Int32)).toNatClampNeg)) + ((1 : Int32)))) 15 a1 0).toNatClampNeg)) (sI (sI st2 7 0 (((0 : Int32)).toNatClampNeg) ((gI st2 7 0 (((0 : Int32)).toNatClampNeg)) + ((1 : Int32)))) 15 a1 0 ((gI (sI st2 7 0 (((0 : Int32)).toNatClampNeg) ((gI st2 7 0 (((0 : Int32)).toNatClampNeg)) + ((1 : Int32)))) 15 a1 0) + ((1 : Int32))))) fun r13 st14 =>
      if r13 = ((0 : Int32)) then
        some st14
      else
        bV (j_Walk_fail r13 st14) fun st18 =>
        some st18
    else
      bV (j_Walk_fail ((7 : Int32)) st2) fun st21 =>
      some st21
  else
    bV (j_Walk_endWell ((0 : Int64)) st2) fun st24 =>
    some st24
set_option maxHeartbeats 4000000 in
set_option maxRecDepth 100000 in
theorem c_Walk_advance (l : Launch) (D : va_G) (A : Nat → Prop) (ad : Nat → Nat) (cA : Nat → ClassId) (tb0 tb1 : Nat) (a1 : Nat) (ha1 : a1 < 10) (st : CwS) (st' : CwS) (h : j_Walk_advance a1 st = some st') : Met l yX6_advance (wv yX6_advance cX6_advance 4 (none)) ({ frames := 5, cells := 0, slots := 0, locals := 142 }) (va_Pc [.ref (ad 176), .ref (ad (179 + 9 * a1))] (cwU D A ad cA tb0 tb1 st)) (cwQv D A ad cA tb0 tb1 st') 0 0 A := by
  refine Met.ofW (cc := cX6_advance) (maxL := 4) (ret := none) (by decide) rfl ?_
  intro p e s m args below meth c s₁ B hml hv
  obtain ⟨rfl, hP, hK⟩ := hv
  have hx := B.exec
  have hb := B.bytes
  have hr := B.returns
  have hts := atoms_spec (ws := wv yX6_advance cX6_advance 4 (none)) B.pre
  have hown : s.vm.findClass RX6 = some m.cls := findClass_of_methodNamed B.named
  have hlocks := B.notSynchronized
  have hO : cwO D A ad cA s st s.heap [] := ⟨hP, va_S.rf⟩
  have hl := lv_entry ([.ref (ad 176), .ref (ad (179 + 9 * a1))]) (n := 4) (Nat.le_of_ble_eq_true rfl)
  rw [lg_entry_eq]
  generalize (lg_sl ([.ref (ad 176), .ref (ad (179 + 9 * a1))]) ++ List.replicate (4 - (lg_sl ([.ref (ad 176), .ref (ad (179 + 9 * a1))])).length) Slot.unset).toArray = ls at hl ⊢
  have hl : lv_has ls 4 [(0, .ref (ad 176)), (1, .ref (ad (179 + 9 * a1)))] := hl
  have _h0 := hO
  have hgw := fun (w : Cond) (h : w ∈ gwW) => hts w (List.mem_cons_of_mem _ h)
  have k17 := hgw _ w_b50feff6
  have k99 := hgw _ w_1602bc2a
  have k105 := hgw _ w_ac4d0234
  have k108 := hgw _ w_9f87e21a
  have k112 := hgw _ w_2808caaf
  have k117 := hgw _ w_4ba90f3d
  unfold j_Walk_advance at h
  refine lv_aload_n hx hb dX6_advance_0 rfl (lv_at hl 1 rfl) ?_
  obtain ⟨r1, st2, h3, h⟩ := bR_some h
  refine cw_calli (va_runV (As := []) (rest := []) ⟨hx, hb, hml, hown, hts⟩ (c_Frame_isAtEnd l D A ad cA tb0 tb1 a1 ha1 st r1 st2 h3) (cwV 0 hts (gw_V w_c68c6a57 w_52c9f7df w_a8a488a5 w_aeeb22ff w_464469b2) rfl rfl rfl (by decide +kernel) ⟨Nat.le_of_ble_eq_true rfl, Nat.le_of_ble_eq_true rfl⟩) (cw_preV (k := 179 + 9 * a1) (ci := 2) hK hO rfl (by have := ha1; omega) (cc_Frame ha1)) rfl rfl hl.1 rfl (lv_room (Nat.le_of_ble_eq_true rfl)) dX6_advance_1 ⟨Nat.zero_le _, Nat.zero_le _⟩) hO (fun H locs hO => ?_)
  refine lv_if_eq (tgt := 13) hx hb dX6_advance_4 (by decide) (fun c4 => ?_) (fun c4 => ?_)
  · have h := ite_t c4 h
    refine lv_aload_n hx hb dX6_advance_13 rfl (lv_at hl 0 rfl) ?_
    refine gf_Walk_counts hx hb hgw iwWalk hown hK hO k17 dX6_advance_14 ?_
    refine lv_iconst (v := 0) hx hb dX6_advance_17 (by decide) ?_
    obtain ⟨hc5, h⟩ := ck_some h
    refine al_Counts hx hb hK hO hc5 dX6_advance_18 ?_
    refine lv_aload_n hx hb dX6_advance_19 rfl (lv_at hl 1 rfl) ?_
    refine gf_Frame_stop hx hb hgw iwFrame hown hK hO ha1 k99 dX6_advance_20 ?_
    refine lv_icmp_lt (tgt := 33) hx hb dX6_advance_23 (by decide) (fun c6 => ?_) (fun c6 => ?_)
    · have h := ite_t c6 h
      refine lv_aload_n hx hb dX6_advance_33 rfl (lv_at hl 0 rfl) ?_
      refine gf_Walk_counts hx hb hgw iwWalk hown hK hO k17 dX6_advance_34 ?_
      refine lv_iconst (v := 0) hx hb dX6_advance_37 (by decide) ?_
      refine lv_dup2_11 hx hb dX6_advance_38 rfl rfl ?_
      obtain ⟨hc7, h⟩ := ck_some h
      refine al_Counts hx hb hK hO hc7 dX6_advance_39 ?_
      refine lv_iconst (v := 1) hx hb dX6_advance_40 (by decide) ?_
      refine lv_iadd hx hb dX6_advance_41 ?_
      obtain ⟨hc8, h⟩ := ck_some h
      refine as_Counts hx hb hK hO hc8 dX6_advance_42 (fun H locs hO => ?_)
      refine lv_aload_n hx hb dX6_advance_43 rfl (lv_at hl 1 rfl) ?_
      refine gf_Frame_next hx hb hgw iwFrame hown hK hO ha1 k105 dX6_advance_44 ?_
      refine lv_istore_n (lv' := [(2, .int (gI (sI st2 7 0 (((0 : Int32)).toNatClampNeg) ((gI st2 7 0 (((0 : Int32)).toNatClampNeg)) + ((1 : Int32)))) 15 a1 0)), (0, .ref (ad 176)), (1, .ref (ad (179 + 9 * a1)))]) hx hb dX6_advance_47 rfl hl (by decide) rfl (fun ls hl => ?_)
      refine lv_aload_n hx hb dX6_advance_48 rfl (lv_at hl 2 rfl) ?_
      refine lv_dup hx hb dX6_advance_49 rfl ?_
      refine gf_Frame_next hx hb hgw iwFrame hown hK hO ha1 k105 dX6_advance_50 ?_
      refine lv_iconst (v := 1) hx hb dX6_advance_53 (by decide) ?_
      refine lv_iadd hx hb dX6_advance_54 ?_
      refine pf_Frame_next hx hb hgw iwFrame hown hK hO ha1 k105 dX6_advance_55 (fun H locs hO => ?_)
      refine lv_aload_n hx hb dX6_advance_58 rfl (lv_at hl 1 rfl) ?_
      refine lv_aload_n hx hb dX6_advance_59 rfl (lv_at hl 2 rfl) ?_
      refine lv_aload_n hx hb dX6_advance_60 rfl (lv_at hl 2 rfl) ?_
      obtain ⟨hc9, h⟩ := ck_some h
      refine gf_Frame_behaviour hx hb hgw iwFrame hown hK hO ha1 k108 dX6_advance_61 ?_
      refine gf_Beh_codes hx hb hgw iwBeh hown hK hO (ck_lt hc9) k112 dX6_advance_64 ?_
      refine lv_iload_n hx hb dX6_advance_67 rfl (lv_at hl 0 rfl) ?_
      obtain ⟨hc10, h⟩ := ck_some h
      refine al_Codes hx hb hK hO (ck_lt hc9) hc10 dX6_advance_68 ?_
      refine lv_aload_n hx hb dX6_advance_69 rfl (lv_at hl 2 rfl) ?_
      obtain ⟨hc11, h⟩ := ck_some h
      refine gf_Frame_behaviour hx hb hgw iwFrame hown hK hO ha1 k108 dX6_advance_70 ?_
      refine gf_Beh_numbers hx hb hgw iwBeh hown hK hO (ck_lt hc11) k117 dX6_advance_73 ?_
      refine lv_iload_n hx hb dX6_advance_76 rfl (lv_at hl 0 rfl) ?_
      obtain ⟨hc12, h⟩ := ck_some h
      refine al_Nums hx hb hK hO (ck_lt hc11) hc12 dX6_advance_77 ?_
      obtain ⟨r13, st14, h15, h⟩ := bR_some h
      refine cw_calli (va_runV (As := [.ref (ad (179 + 9 * a1)), .int (gI (sI (sI st2 7 0 (((0 : Int32)).toNatClampNeg) ((gI st2 7 0 (((0 : Int32)).toNatClampNeg)) + ((1 : Int32)))) 15 a1 0 ((gI (sI st2 7 0 (((0 : Int32)).toNatClampNeg) ((gI st2 7 0 (((0 : Int32)).toNatClampNeg)) + ((1 : Int32)))) 15 a1 0) + ((1 : Int32)))) 0 (gR (sI (sI st2 7 0 (((0 : Int32)).toNatClampNeg) ((gI st2 7 0 (((0 : Int32)).toNatClampNeg)) + ((1 : Int32)))) 15 a1 0 ((gI (sI st2 7 0 (((0 : Int32)).toNatClampNeg) ((gI st2 7 0 (((0 : Int32)).toNatClampNeg)) + ((1 : Int32)))) 15 a1 0) + ((1 : Int32)))) 0 a1) ((gI (sI st2 7 0 (((0 : Int32)).toNatClampNeg) ((gI st2 7 0 (((0 : Int32)).toNatClampNeg)) + ((1 : Int32)))) 15 a1 0).toNatClampNeg)), .int (gI (sI (sI st2 7 0 (((0 : Int32)).toNatClampNeg) ((gI st2 7 0 (((0 : Int32)).toNatClampNeg)) + ((1 : Int32)))) 15 a1 0 ((gI (sI st2 7 0 (((0 : Int32)).toNatClampNeg) ((gI st2 7 0 (((0 : Int32)).toNatClampNeg)) + ((1 : Int32)))) 15 a1 0) + ((1 : Int32)))) 1 (gR (sI (sI st2 7 0 (((0 : Int32)).toNatClampNeg) ((gI st2 7 0 (((0 : Int32)).toNatClampNeg)) + ((1 : Int32)))) 15 a1 0 ((gI (sI st2 7 0 (((0 : Int32)).toNatClampNeg) ((gI st2 7 0 (((0 : Int32)).toNatClampNeg)) + ((1 : Int32)))) 15 a1 0) + ((1 : Int32)))) 0 a1) ((gI (sI st2 7 0 (((0 : Int32)).toNatClampNeg) ((gI st2 7 0 (((0 : Int32)).toNatClampNeg)) + ((1 : Int32)))) 15 a1 0).toNatClampNeg))]) (rest := []) ⟨hx, hb, hml, hown, hts⟩ (c_Walk_perform l D A ad cA tb0 tb1 a1 ha1 (gI (sI (sI st2 7 0 (((0 : Int32)).toNatClampNeg) ((gI st2 7 0 (((0 : Int32)).toNatClampNeg)) + ((1 : Int32)))) 15 a1 0 ((gI (sI st2 7 0 (((0 : Int32)).toNatClampNeg) ((gI st2 7 0 (((0 : Int32)).toNatClampNeg)) + ((1 : Int32)))) 15 a1 0) + ((1 : Int32)))) 0 (gR (sI (sI st2 7 0 (((0 : Int32)).toNatClampNeg) ((gI st2 7 0 (((0 : Int32)).toNatClampNeg)) + ((1 : Int32)))) 15 a1 0 ((gI (sI st2 7 0 (((0 : Int32)).toNatClampNeg) ((gI st2 7 0 (((0 : Int32)).toNatClampNeg)) + ((1 : Int32)))) 15 a1 0) + ((1 : Int32)))) 0 a1) ((gI (sI st2 7 0 (((0 : Int32)).toNatClampNeg) ((gI st2 7 0 (((0 : Int32)).toNatClampNeg)) + ((1 : Int32)))) 15 a1 0).toNatClampNeg)) (gI (sI (sI st2 7 0 (((0 : Int32)).toNatClampNeg) ((gI st2 7 0 (((0 : Int32)).toNatClampNeg)) + ((1 : Int32)))) 15 a1 0 ((gI (sI st2 7 0 (((0 : Int32)).toNatClampNeg) ((gI st2 7 0 (((0 : Int32)).toNatClampNeg)) + ((1 : Int32)))) 15 a1 0) + ((1 : Int32)))) 1 (gR (sI (sI st2 7 0 (((0 : Int32)).toNatClampNeg) ((gI st2 7 0 (((0 : Int32)).toNatClampNeg)) + ((1 : Int32)))) 15 a1 0 ((gI (sI st2 7 0 (((0 : Int32)).toNatClampNeg) ((gI st2 7 0 (((0 : Int32)).toNatClampNeg)) + ((1 : Int32)))) 15 a1 0) + ((1 : Int32)))) 0 a1) ((gI (sI st2 7 0 (((0 : Int32)).toNatClampNeg) ((gI st2 7 0 (((0 : Int32)).toNatClampNeg)) + ((1 : Int32)))) 15 a1 0).toNatClampNeg)) (sI (sI st2 7 0 (((0 : Int32)).toNatClampNeg) ((gI st2 7 0 (((0 : Int32)).toNatClampNeg)) + ((1 : Int32)))) 15 a1 0 ((gI (sI st2 7 0 (((0 : Int32)).toNatClampNeg) ((gI st2 7 0 (((0 : Int32)).toNatClampNeg)) + ((1 : Int32)))) 15 a1 0) + ((1 : Int32)))) r13 st14 h15) (cwV 3 hts (gw_V w_1f0e3b8d w_2e16982e w_a502de03 w_f8f5642f w_2b51fd84) rfl rfl rfl (by decide +kernel) ⟨Nat.le_of_ble_eq_true rfl, Nat.le_of_ble_eq_true rfl⟩) (cw_preV (k := 176) (ci := 6) hK hO rfl (by decide) (cc_Walk)) rfl rfl hl.1 rfl (lv_room (Nat.le_of_ble_eq_true rfl)) dX6_advance_78 ⟨Nat.zero_le _, Nat.zero_le _⟩) hO (fun H locs hO => ?_)
      refine lv_istore_n (lv' := [(3, .int r13), (2, .int (gI (sI st2 7 0 (((0 : Int32)).toNatClampNeg) ((gI st2 7 0 (((0 : Int32)).toNatClampNeg)) + ((1 : Int32)))) 15 a1 0)), (0, .ref (ad 176)), (1, .ref (ad (179 + 9 * a1)))]) hx hb dX6_advance_81 rfl hl (by decide) rfl (fun ls hl => ?_)
      refine lv_iload_n hx hb dX6_advance_82 rfl (lv_at hl 0 rfl) ?_
      refine lv_if_eq (tgt := 91) hx hb dX6_advance_83 (by decide) (fun c16 => ?_) (fun c16 => ?_)
      · have h := ite_t c16 h
        cases h; exact cw_vret hx hb hr hlocks hO dX6_advance_91
      · have h := ite_f c16 h
        refine lv_aload_n hx hb dX6_advance_86 rfl (lv_at hl 2 rfl) ?_
        refine lv_iload_n hx hb dX6_advance_87 rfl (lv_at hl 0 rfl) ?_
        obtain ⟨st18, h19, h⟩ := bV_some h
        refine cw_callv (va_runV (As := [.int r13]) (rest := []) ⟨hx, hb, hml, hown, hts⟩ (c_Walk_fail l D A ad cA tb0 tb1 r13 st14 st18 h19) (cwV 1 hts (gw_V w_3dcd3af6 w_436503bb w_f99d3967 w_f8f5642f w_097b7644) rfl rfl rfl (by decide +kernel) ⟨Nat.le_of_ble_eq_true rfl, Nat.le_of_ble_eq_true rfl⟩) (cw_preV (k := 176) (ci := 6) hK hO rfl (by decide) (cc_Walk)) rfl rfl hl.1 rfl (lv_room (Nat.le_of_ble_eq_true rfl)) dX6_advance_88 ⟨Nat.zero_le _, Nat.zero_le _⟩) hO (fun H locs hO => ?_)
        cases h; exact cw_vret hx hb hr hlocks hO dX6_advance_91
    · have h := ite_f c6 h
      refine lv_aload_n hx hb dX6_advance_26 rfl (lv_at hl 0 rfl) ?_
      refine lv_bipush (v := 7) hx hb dX6_advance_27 (by decide) ?_
      obtain ⟨st21, h22, h⟩ := bV_some h
      refine cw_callv (va_runV (As := [.int ((7 : Int32))]) (rest := []) ⟨hx, hb, hml, hown, hts⟩ (c_Walk_fail l D A ad cA tb0 tb1 ((7 : Int32)) st2 st21 h22) (cwV 1 hts (gw_V w_3dcd3af6 w_436503bb w_f99d3967 w_f8f5642f w_097b7644) rfl rfl rfl (by decide +kernel) ⟨Nat.le_of_ble_eq_true rfl, Nat.le_of_ble_eq_true rfl⟩) (cw_preV (k := 176) (ci := 6) hK hO rfl (by decide) (cc_Walk)) rfl rfl hl.1 rfl (lv_room (Nat.le_of_ble_eq_true rfl)) dX6_advance_29 ⟨Nat.zero_le _, Nat.zero_le _⟩) hO (fun H locs hO => ?_)
      cases h; exact cw_vret hx hb hr hlocks hO dX6_advance_32
  · have h := ite_f c4 h
    refine lv_aload_n hx hb dX6_advance_7 rfl (lv_at hl 0 rfl) ?_
    refine lv_lconst (v := 0) hx hb dX6_advance_8 (by decide) ?_
    obtain ⟨st24, h25, h⟩ := bV_some h
    refine cw_callv (va_runV (As := [.long ((0 : Int64))]) (rest := []) ⟨hx, hb, hml, hown, hts⟩ (c_Walk_endWell l D A ad cA tb0 tb1 ((0 : Int64)) st2 st24 h25) (cwV 1 hts (gw_V w_38165e87 w_d970e0b9 w_f7c4a27b w_f8f5642f w_1b9bef71) rfl rfl rfl (by decide +kernel) ⟨Nat.le_of_ble_eq_true rfl, Nat.le_of_ble_eq_true rfl⟩) (cw_preV (k := 176) (ci := 6) hK hO rfl (by decide) (cc_Walk)) rfl rfl hl.1 rfl (lv_room (Nat.le_of_ble_eq_true rfl)) dX6_advance_9 ⟨Nat.zero_le _, Nat.zero_le _⟩) hO (fun H locs hO => ?_)
    cases h; exact cw_vret hx hb hr hlocks hO dX6_advance_12
-- Walk go
def j_Walk_go_L78 : Nat → Int32 → Int32 → Int64 → Int32 → Nat → Int32 → CwS → Option (Int32 × CwS)
  | 0, _, _, _, _, _, _, _ => none
  | n + 1, x1, x2, x3, x5, x6, x7, st =>
    if ((1000000 : Int32)) ≤ x7 then
      some (gI st 9 0 0, st)
    else
      if (gI st 8 0 0) ≤ ((0 : Int32)) then
        some (gI st 9 0 0, st)
      else
        ck (ix ((gI st 8 0 0) - ((1 : Int32))) 10) <|
        bV (j_Walk_advance (((gI st 8 0 0) - ((1 : Int32))).toNatClampNeg) st) fun st17 =>
        j_Walk_go_L78 n x1 x2 x3 x5 x6 (x7 + (1 : Int32)) st17
def j_Walk_go_L3 : Nat → Int32 → Int32 → Int64 → Int32 → Int32 → CwS → Option (Int32 × CwS)
  | 0, _, _, _, _, _, _ => none
  | n + 1, x1, x2, x3, x5, x6, st =>
    if ((5 : Int32)) ≤ x6 then
      bR (j_Book_find x1 x2 (sL (sI (sI (sI st 5 0 0 ((0 : Int32))) 8 0 0 ((0 : Int32))) 9 0 0 ((0 : Int32))) 5 0 0 ((0 : Int64)))) fun r2 st3 =>
      ck (decide (r2 < 48)) <|
      bR (j_Walk_open r2 x1 ((-1 : Int32)) x5 st3) fun r6 st7 =>
      ck (decide (r6 < 10)) <|
      bR (j_Pile_putNumber r6 x3 st7) fun r10 st11 =>
      j_Walk_go_L78 1000001 x1 x2 x3 x5 r6 ((0 : Int32)) st11
    else
      ck (ix x6 5) <|
      j_Walk_go_L3 n x1 x2 x3 x5 (x6 + (1 : Int32)) (sI st 7 0 x6.toNatClampNeg ((0 : Int32)))
def j_Walk_go (a1 : Int32) (a2 : Int32) (a3 : Int64) (a5 : Int32) (st : CwS) : Option (Int32 × CwS) :=
  j_Walk_go_L3 1000001 a1 a2 a3 a5 ((0 : Int32)) st
set_option maxHeartbeats 4000000 in
set_option maxRecDepth 100000 in
theorem c_Walk_go_L78 {l : Launch} {D : va_G} {A : Nat → Prop} {ad : Nat → Nat} {cA : Nat → ClassId} {tb0 tb1 : Nat} {p : Program} {e : Env} {s : State} {m : MethodId} {args : Array Value} {below : List Frame} {meth : Method} {c : Code} (S : CallFix p m c cX6_go 8 s args (wv yX6_go cX6_go 8 (some .int)) RX6) (hr : meth.sig.returnType = some .int) (hlocks : meth.locks = false) (hK : cwK D A ad cA tb0 tb1 s) (r : Int32) (st' : CwS) : ∀ (n : Nat) (x1 : Int32) (x2 : Int32) (x3 : Int64) (x5 : Int32) (x6 : Nat) (hx6 : x6 < 10) (x7 : Int32) (st : CwS) (H : Heap) (locs : List Loc) (ls : Array Slot), j_Walk_go_L78 n x1 x2 x3 x5 x6 x7 st = some (r, st') → cwO D A ad cA s st H locs → lv_has ls 8 [(0, .ref (ad 176)), (1, .int x1), (2, .int x2), (3, .long x3), (5, .int x5), (6, .ref (ad (179 + 9 * x6))), (7, .int x7)] → W p l e ({ frames := 6, cells := 0, slots := 0, locals := 165 }) s m args below meth c H locs 0 0 (MQ below (cwQi D A ad cA tb0 tb1 r st') args s 0 0 A) (F0 m 78 ls []) := by
  obtain ⟨hx, hb, hml, hown, hts⟩ := S
  have hgw := fun (w : Cond) (h : w ∈ gwW) => hts w (List.mem_cons_of_mem _ h)
  have k11 := hgw _ w_4a27d2bd
  have k17 := hgw _ w_b50feff6
  have k21 := hgw _ w_b62a6067
  have k25 := hgw _ w_166650d6
  have k28 := hgw _ w_0e7c3207
  have k32 := hgw _ w_6dd6e69a
  have k36 := hgw _ w_4f54f888
  have k49 := hgw _ w_3ff1e1a5
  have k62 := hgw _ w_115d9ac3
  have k72 := hgw _ w_c42e965e
  intro n
  induction n with
  | zero =>
    intro x1 x2 x3 x5 x6 hx6 x7 st H locs ls h hO hl
    cases h
  | succ n ih =>
    intro x1 x2 x3 x5 x6 hx6 x7 st H locs ls h hO hl
    unfold j_Walk_go_L78 at h
    refine lv_iload hx hb dX6_go_78 (lv_at hl 6 rfl) ?_
    refine lv_ldc hx hb hown k72 dX6_go_80 ?_
    refine lv_icmp_ge (tgt := 113) hx hb dX6_go_82 (by decide) (fun c13 => ?_) (fun c13 => ?_)
    · have h := ite_t c13 h
      refine lv_aload_n hx hb dX6_go_113 rfl (lv_at hl 0 rfl) ?_
      refine gf_Walk_answer hx hb hgw iwWalk hown hK hO k25 dX6_go_114 ?_
      obtain ⟨rfl, rfl⟩ := ret2 h; exact cw_iret hx hb hr hlocks hO dX6_go_117
    · have h := ite_f c13 h
      refine lv_aload_n hx hb dX6_go_85 rfl (lv_at hl 0 rfl) ?_
      refine gf_Walk_depth hx hb hgw iwWalk hown hK hO k21 dX6_go_86 ?_
      refine lv_if_le (tgt := 113) hx hb dX6_go_89 (by decide) (fun c14 => ?_) (fun c14 => ?_)
      · have h := ite_t c14 h
        refine lv_aload_n hx hb dX6_go_113 rfl (lv_at hl 0 rfl) ?_
        refine gf_Walk_answer hx hb hgw iwWalk hown hK hO k25 dX6_go_114 ?_
        obtain ⟨rfl, rfl⟩ := ret2 h; exact cw_iret hx hb hr hlocks hO dX6_go_117
      · have h := ite_f c14 h
        refine lv_aload_n hx hb dX6_go_92 rfl (lv_at hl 0 rfl) ?_
        refine lv_aload_n hx hb dX6_go_93 rfl (lv_at hl 0 rfl) ?_
        refine gf_Walk_frames hx hb hgw iwWalk hown hK hO k11 dX6_go_94 ?_
        refine lv_aload_n hx hb dX6_go_97 rfl (lv_at hl 0 rfl) ?_
        refine gf_Walk_depth hx hb hgw iwWalk hown hK hO k21 dX6_go_98 ?_
        refine lv_iconst (v := 1) hx hb dX6_go_101 (by decide) ?_
        refine lv_isub hx hb dX6_go_102 ?_
        obtain ⟨hc15, h⟩ := ck_some h
        refine al_FrArr hx hb hK hO hc15 dX6_go_103 ?_
        obtain ⟨st17, h18, h⟩ := bV_some h
        refine cw_callv (va_runV (As := [.ref (ad (179 + 9 * ((gI st 8 0 0) - ((1 : Int32))).toNatClampNeg))]) (rest := []) ⟨hx, hb, hml, hown, hts⟩ (c_Walk_advance l D A ad cA tb0 tb1 (((gI st 8 0 0) - ((1 : Int32))).toNatClampNeg) (ix_lt hc15) st st17 h18) (cwV 1 hts (gw_V w_714fe44f w_580654f0 w_94a297f8 w_f8f5642f w_5a2878fc) rfl rfl rfl (by decide +kernel) ⟨Nat.le_of_ble_eq_true rfl, Nat.le_of_ble_eq_true rfl⟩) (cw_preV (k := 176) (ci := 6) hK hO rfl (by decide) (cc_Walk)) rfl rfl hl.1 rfl (lv_room (Nat.le_of_ble_eq_true rfl)) dX6_go_104 ⟨Nat.zero_le _, Nat.zero_le _⟩) hO (fun H locs hO => ?_)
        refine lv_iinc (v := x7 + (1 : Int32)) (lv' := [(7, .int (x7 + (1 : Int32))), (0, .ref (ad 176)), (1, .int x1), (2, .int x2), (3, .long x3), (5, .int x5), (6, .ref (ad (179 + 9 * x6)))]) hx hb dX6_go_107 hl (k := 6) rfl rfl (by decide) rfl (fun ls hl => ?_)
        refine lv_goto (tgt := 78) hx hb dX6_go_110 (by decide) ?_
        exact ih x1 x2 x3 x5 x6 hx6 (x7 + (1 : Int32)) _ _ _ _ h hO (lv_sub hl [1, 2, 3, 4, 5, 6, 0] rfl)
set_option maxHeartbeats 4000000 in
set_option maxRecDepth 100000 in
theorem c_Walk_go_L3 {l : Launch} {D : va_G} {A : Nat → Prop} {ad : Nat → Nat} {cA : Nat → ClassId} {tb0 tb1 : Nat} {p : Program} {e : Env} {s : State} {m : MethodId} {args : Array Value} {below : List Frame} {meth : Method} {c : Code} (S : CallFix p m c cX6_go 8 s args (wv yX6_go cX6_go 8 (some .int)) RX6) (hr : meth.sig.returnType = some .int) (hlocks : meth.locks = false) (hK : cwK D A ad cA tb0 tb1 s) (r : Int32) (st' : CwS) : ∀ (n : Nat) (x1 : Int32) (x2 : Int32) (x3 : Int64) (x5 : Int32) (x6 : Int32) (st : CwS) (H : Heap) (locs : List Loc) (ls : Array Slot), j_Walk_go_L3 n x1 x2 x3 x5 x6 st = some (r, st') → cwO D A ad cA s st H locs → lv_has ls 8 [(0, .ref (ad 176)), (1, .int x1), (2, .int x2), (3, .long x3), (5, .int x5), (6, .int x6)] → W p l e ({ frames := 6, cells := 0, slots := 0, locals := 165 }) s m args below meth c H locs 0 0 (MQ below (cwQi D A ad cA tb0 tb1 r st') args s 0 0 A) (F0 m 3 ls []) := by
  obtain ⟨hx, hb, hml, hown, hts⟩ := S
  have hgw := fun (w : Cond) (h : w ∈ gwW) => hts w (List.mem_cons_of_mem _ h)
  have k11 := hgw _ w_4a27d2bd
  have k17 := hgw _ w_b50feff6
  have k21 := hgw _ w_b62a6067
  have k25 := hgw _ w_166650d6
  have k28 := hgw _ w_0e7c3207
  have k32 := hgw _ w_6dd6e69a
  have k36 := hgw _ w_4f54f888
  have k49 := hgw _ w_3ff1e1a5
  have k62 := hgw _ w_115d9ac3
  have k72 := hgw _ w_c42e965e
  intro n
  induction n with
  | zero =>
    intro x1 x2 x3 x5 x6 st H locs ls h hO hl
    cases h
  | succ n ih =>
    intro x1 x2 x3 x5 x6 st H locs ls h hO hl
    unfold j_Walk_go_L3 at h
    refine lv_iload hx hb dX6_go_3 (lv_at hl 5 rfl) ?_
    refine lv_iconst (v := 5) hx hb dX6_go_5 (by decide) ?_
    refine lv_icmp_ge (tgt := 23) hx hb dX6_go_6 (by decide) (fun c1 => ?_) (fun c1 => ?_)
    · have h := ite_t c1 h
      refine lv_aload_n hx hb dX6_go_23 rfl (lv_at hl 0 rfl) ?_
      refine gf_Walk_ledger hx hb hgw iwWalk hown hK hO k36 dX6_go_24 ?_
      refine lv_iconst (v := 0) hx hb dX6_go_27 (by decide) ?_
      refine pf_Ledger_eventCount hx hb hgw iwLedger hown hK hO k49 dX6_go_28 (fun H locs hO => ?_)
      refine lv_aload_n hx hb dX6_go_31 rfl (lv_at hl 0 rfl) ?_
      refine lv_iconst (v := 0) hx hb dX6_go_32 (by decide) ?_
      refine pf_Walk_depth hx hb hgw iwWalk hown hK hO k21 dX6_go_33 (fun H locs hO => ?_)
      refine lv_aload_n hx hb dX6_go_36 rfl (lv_at hl 0 rfl) ?_
      refine lv_iconst (v := 0) hx hb dX6_go_37 (by decide) ?_
      refine pf_Walk_answer hx hb hgw iwWalk hown hK hO k25 dX6_go_38 (fun H locs hO => ?_)
      refine lv_aload_n hx hb dX6_go_41 rfl (lv_at hl 0 rfl) ?_
      refine lv_lconst (v := 0) hx hb dX6_go_42 (by decide) ?_
      refine pf_Walk_result hx hb hgw iwWalk hown hK hO k28 dX6_go_43 (fun H locs hO => ?_)
      refine lv_aload_n hx hb dX6_go_46 rfl (lv_at hl 0 rfl) ?_
      refine lv_aload_n hx hb dX6_go_47 rfl (lv_at hl 0 rfl) ?_
      refine gf_Walk_book hx hb hgw iwWalk hown hK hO k32 dX6_go_48 ?_
      refine lv_iload_n hx hb dX6_go_51 rfl (lv_at hl 1 rfl) ?_
      refine lv_iload_n hx hb dX6_go_52 rfl (lv_at hl 2 rfl) ?_
      obtain ⟨r2, st3, h4, h⟩ := bR_some h
      obtain ⟨hc5, h⟩ := ck_some h
      refine cw_callr (va_runV (As := [.int x1, .int x2]) (rest := [.ref (ad 176)]) ⟨hx, hb, hml, hown, hts⟩ (c_Book_find l D A ad cA tb0 tb1 x1 x2 (sL (sI (sI (sI st 5 0 0 ((0 : Int32))) 8 0 0 ((0 : Int32))) 9 0 0 ((0 : Int32))) 5 0 0 ((0 : Int64))) r2 st3 h4) (cwV 2 hts (gw_V w_f637e4e7 w_e1327d62 w_a3354a1d w_df4c496e w_9a4e77f1) rfl rfl rfl (by decide +kernel) ⟨Nat.le_of_ble_eq_true rfl, Nat.le_of_ble_eq_true rfl⟩) (cw_preV (k := 1) (ci := 1) hK hO rfl (by decide) (cc_Book)) rfl rfl hl.1 rfl (lv_room (Nat.le_of_ble_eq_true rfl)) dX6_go_53 ⟨Nat.zero_le _, Nat.zero_le _⟩) hO (fun H locs hO => ?_)
      refine lv_iload_n hx hb dX6_go_56 rfl (lv_at hl 1 rfl) ?_
      refine lv_iconst (v := -1) hx hb dX6_go_57 (by decide) ?_
      refine lv_iload hx hb dX6_go_58 (lv_at hl 4 rfl) ?_
      obtain ⟨r6, st7, h8, h⟩ := bR_some h
      obtain ⟨hc9, h⟩ := ck_some h
      refine cw_callr (va_runV (As := [.ref (ad (4 + 3 * r2)), .int x1, .int ((-1 : Int32)), .int x5]) (rest := []) ⟨hx, hb, hml, hown, hts⟩ (c_Walk_open l D A ad cA tb0 tb1 r2 (ck_lt hc5) x1 ((-1 : Int32)) x5 st3 r6 st7 h8) (cwV 4 hts (gw_V w_5cb88b1c w_50db3de5 w_c63fa8c6 w_f8f5642f w_18b9acd0) rfl rfl rfl (by decide +kernel) ⟨Nat.le_of_ble_eq_true rfl, Nat.le_of_ble_eq_true rfl⟩) (cw_preV (k := 176) (ci := 6) hK hO rfl (by decide) (cc_Walk)) rfl rfl hl.1 rfl (lv_room (Nat.le_of_ble_eq_true rfl)) dX6_go_60 ⟨Nat.zero_le _, Nat.zero_le _⟩) hO (fun H locs hO => ?_)
      refine lv_astore (lv' := [(6, .ref (ad (179 + 9 * r6))), (0, .ref (ad 176)), (1, .int x1), (2, .int x2), (3, .long x3), (5, .int x5)]) hx hb dX6_go_63 hl (by decide) rfl (fun ls hl => ?_)
      refine lv_aload hx hb dX6_go_65 (lv_at hl 0 rfl) ?_
      refine gf_Frame_pile hx hb hgw iwFrame hown hK hO (ck_lt hc9) k62 dX6_go_67 ?_
      refine lv_lload_n hx hb dX6_go_70 rfl (lv_at hl 4 rfl) ?_
      obtain ⟨r10, st11, h12, h⟩ := bR_some h
      refine cw_calli (va_runV (As := [.long x3]) (rest := []) ⟨hx, hb, hml, hown, hts⟩ (c_Pile_putNumber l D A ad cA tb0 tb1 r6 (ck_lt hc9) x3 st7 r10 st11 h12) (cwV 1 hts (gw_V w_8fddbe94 w_34c9ad22 w_9e5e849e w_76c797a4 w_03086df0) rfl rfl rfl (by decide +kernel) ⟨Nat.le_of_ble_eq_true rfl, Nat.le_of_ble_eq_true rfl⟩) (cw_preV (k := 182 + 9 * r6) (ci := 4) hK hO rfl (by have := (ck_lt hc9); omega) (cc_Pile (ck_lt hc9))) rfl rfl hl.1 rfl (lv_room (Nat.le_of_ble_eq_true rfl)) dX6_go_71 ⟨Nat.zero_le _, Nat.zero_le _⟩) hO (fun H locs hO => ?_)
      refine lv_pop hx hb dX6_go_74 rfl ?_
      refine lv_iconst (v := 0) hx hb dX6_go_75 (by decide) ?_
      refine lv_istore (lv' := [(7, .int ((0 : Int32))), (6, .ref (ad (179 + 9 * r6))), (0, .ref (ad 176)), (1, .int x1), (2, .int x2), (3, .long x3), (5, .int x5)]) hx hb dX6_go_76 hl (by decide) rfl (fun ls hl => ?_)
      exact c_Walk_go_L78 ⟨hx, hb, hml, hown, hts⟩ hr hlocks hK r st' 1000001 x1 x2 x3 x5 r6 (ck_lt hc9) ((0 : Int32)) _ _ _ _ h hO (lv_sub hl [2, 3, 4, 5, 6, 1, 0] rfl)
    · have h := ite_f c1 h
      refine lv_aload_n hx hb dX6_go_9 rfl (lv_at hl 0 rfl) ?_
      refine gf_Walk_counts hx hb hgw iwWalk hown hK hO k17 dX6_go_10 ?_
      refine lv_iload hx hb dX6_go_13 (lv_at hl 5 rfl) ?_
      refine lv_iconst (v := 0) hx hb dX6_go_15 (by decide) ?_
      obtain ⟨hc19, h⟩ := ck_some h
      refine as_Counts hx hb hK hO hc19 dX6_go_16 (fun H locs hO => ?_)
      refine lv_iinc (v := x6 + (1 : Int32)) (lv' := [(6, .int (x6 + (1 : Int32))), (0, .ref (ad 176)), (1, .int x1), (2, .int x2), (3, .long x3), (5, .int x5)]) hx hb dX6_go_17 hl (k := 5) rfl rfl (by decide) rfl (fun ls hl => ?_)
      refine lv_goto (tgt := 3) hx hb dX6_go_20 (by decide) ?_
      exact ih x1 x2 x3 x5 (x6 + (1 : Int32)) _ _ _ _ h hO (lv_sub hl [1, 2, 3, 4, 5, 0] rfl)
set_option maxHeartbeats 4000000 in
set_option maxRecDepth 100000 in
theorem c_Walk_go (l : Launch) (D : va_G) (A : Nat → Prop) (ad : Nat → Nat) (cA : Nat → ClassId) (tb0 tb1 : Nat) (a1 : Int32) (a2 : Int32) (a3 : Int64) (a5 : Int32) (st : CwS) (r : Int32) (st' : CwS) (h : j_Walk_go a1 a2 a3 a5 st = some (r, st')) : Met l yX6_go (wv yX6_go cX6_go 8 (some .int)) ({ frames := 6, cells := 0, slots := 0, locals := 165 }) (va_Pc [.ref (ad 176), .int a1, .int a2, .long a3, .int a5] (cwU D A ad cA tb0 tb1 st)) (cwQi D A ad cA tb0 tb1 r st') 0 0 A := by
  refine Met.ofW (cc := cX6_go) (maxL := 8) (ret := some .int) (by decide) rfl ?_
  intro p e s m args below meth c s₁ B hml hv
  obtain ⟨rfl, hP, hK⟩ := hv
  have hx := B.exec
  have hb := B.bytes
  have hr := B.returns
  have hts := atoms_spec (ws := wv yX6_go cX6_go 8 (some .int)) B.pre
  have hown : s.vm.findClass RX6 = some m.cls := findClass_of_methodNamed B.named
  have hlocks := B.notSynchronized
  have hO : cwO D A ad cA s st s.heap [] := ⟨hP, va_S.rf⟩
  have hl := lv_entry ([.ref (ad 176), .int a1, .int a2, .long a3, .int a5]) (n := 8) (Nat.le_of_ble_eq_true rfl)
  rw [lg_entry_eq]
  generalize (lg_sl ([.ref (ad 176), .int a1, .int a2, .long a3, .int a5]) ++ List.replicate (8 - (lg_sl ([.ref (ad 176), .int a1, .int a2, .long a3, .int a5])).length) Slot.unset).toArray = ls at hl ⊢
  have hl : lv_has ls 8 [(0, .ref (ad 176)), (1, .int a1), (2, .int a2), (3, .long a3), (5, .int a5)] := hl
  have _h0 := hO
  have hgw := fun (w : Cond) (h : w ∈ gwW) => hts w (List.mem_cons_of_mem _ h)
  have k11 := hgw _ w_4a27d2bd
  have k17 := hgw _ w_b50feff6
  have k21 := hgw _ w_b62a6067
  have k25 := hgw _ w_166650d6
  have k28 := hgw _ w_0e7c3207
  have k32 := hgw _ w_6dd6e69a
  have k36 := hgw _ w_4f54f888
  have k49 := hgw _ w_3ff1e1a5
  have k62 := hgw _ w_115d9ac3
  have k72 := hgw _ w_c42e965e
  unfold j_Walk_go at h
  refine lv_iconst (v := 0) hx hb dX6_go_0 (by decide) ?_
  refine lv_istore (lv' := [(6, .int ((0 : Int32))), (0, .ref (ad 176)), (1, .int a1), (2, .int a2), (3, .long a3), (5, .int a5)]) hx hb dX6_go_1 hl (by decide) rfl (fun ls hl => ?_)
  exact c_Walk_go_L3 ⟨hx, hb, hml, hown, hts⟩ hr hlocks hK r st' 1000001 a1 a2 a3 a5 ((0 : Int32)) _ _ _ _ h hO (lv_sub hl [1, 2, 3, 4, 5, 0] rfl)
