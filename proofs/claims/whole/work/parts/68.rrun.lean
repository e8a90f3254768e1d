-- CallWalkerModel run
def j_Mo_run (a1 : Int32) (a2 : Int32) (a3 : Int64) (a5 : Int32) (st0 : CwS) : Option (Int32 × CwS) :=
  bR (j_Mo_isBehaviour a1 a2 st0) fun r1 st2 =>
  if r1 = ((0 : Int32)) then
    some ((-1 : Int32), st2)
  else
    bR (j_Mo_isIn a5 ((0 : Int32)) ((600 : Int32)) st2) fun r5 st6 =>
    if r5 = ((0 : Int32)) then
      some ((-1 : Int32), st6)
    else
      bS (sI (sI (sI (sI (sI (sI (sL (sI st6 7 0 0 ((0 : Int32))) 3 0 0 ((0 : Int64))) 8 0 0 ((0 : Int32))) 9 0 0 ((0 : Int32))) 10 0 0 ((0 : Int32))) 11 0 0 ((0 : Int32))) 12 0 0 ((0 : Int32))) 13 0 0 ((0 : Int32))) fun st9 =>
      bR (j_Mo_frame a1 ((-1 : Int32)) a2 a5 st9) fun r10 st11 =>
      ck (decide (r10 < gR st11 101 0)) <|
      bV (j_MF_number r10 a3 st11) fun st14 =>
      bR (j_Mo_ran 11 r10 ((0 : Int64)) st14) fun r16 st17 =>
      if r16 = ((100 : Int32)) then
        if r16 = ((100 : Int32)) then
          some ((0 : Int32), sL st17 3 0 0 (gL st17 4 r10 0))
        else
          if r16 = ((99 : Int32)) then
            some ((-3 : Int32), sL st17 3 0 0 (gL st17 4 r10 0))
          else
            some (r16, sL st17 3 0 0 (gL st17 4 r10 0))
      else
        if r16 = ((100 : Int32)) then
          some ((0 : Int32), sL st17 3 0 0 ((0 : Int64)))
        else
          if r16 = ((99 : Int32)) then
            some ((-3 : Int32), sL st17 3 0 0 ((0 : Int64)))
          else
            some (r16, sL st17 3 0 0 ((0 : Int64)))
set_option maxHeartbeats 4000000 in
theorem x_Mo_run {a1 : Int32} {a2 : Int32} {a3 : Int64} {a5 : Int32} {st0 : CwS} {r : Int32} {st' : CwS} (h : j_Mo_run a1 a2 a3 a5 st0 = some (r, st')) : Ext st0 st' := by
  unfold j_Mo_run at h
  obtain ⟨r1, st2, h3, h⟩ := bR_some h
  refine Ext.trans (a := st0) (b := st2) (by have t := x_Mo_isBehaviour h3; exact t) ?_
  by_cases c4 : r1 = ((0 : Int32))
  · have h := ite_t c4 h
    obtain ⟨-, rfl⟩ := ret2 h; exact (show Ext st2 _ from Ext.refl st2)
  · have h := ite_f c4 h
    obtain ⟨r5, st6, h7, h⟩ := bR_some h
    refine Ext.trans (a := st2) (b := st6) (by have t := x_Mo_isIn h7; exact t) ?_
    by_cases c8 : r5 = ((0 : Int32))
    · have h := ite_t c8 h
      obtain ⟨-, rfl⟩ := ret2 h; exact (show Ext st6 _ from Ext.refl st6)
    · have h := ite_f c8 h
      obtain ⟨st9, e_st9, h⟩ := bS_some h
      refine Ext.trans (b := st9) (by rw [e_st9]; exact (show Ext st6 _ from Ext.refl st6)) ?_
      obtain ⟨r10, st11, h12, h⟩ := bR_some h
      refine Ext.trans (a := st9) (b := st11) (by have t := x_Mo_frame h12; exact t) ?_
      obtain ⟨-, h⟩ := ck_some h
      obtain ⟨st14, h15, h⟩ := bV_some h
      refine Ext.trans (a := st11) (b := st14) (by have t := x_MF_number h15; exact t) ?_
      obtain ⟨r16, st17, h18, h⟩ := bR_some h
      refine Ext.trans (a := st14) (b := st17) (by have t := x_Mo_ran 11 _ _ _ _ _ h18; exact t) ?_
      by_cases c19 : r16 = ((100 : Int32))
      · have h := ite_t c19 h
        by_cases c22 : r16 = ((100 : Int32))
        · have h := ite_t c22 h
          obtain ⟨-, rfl⟩ := ret2 h; exact (show Ext st17 _ from Ext.refl st17)
        · have h := ite_f c22 h
          by_cases c23 : r16 = ((99 : Int32))
          · have h := ite_t c23 h
            obtain ⟨-, rfl⟩ := ret2 h; exact (show Ext st17 _ from Ext.refl st17)
          · have h := ite_f c23 h
            obtain ⟨-, rfl⟩ := ret2 h; exact (show Ext st17 _ from Ext.refl st17)
      · have h := ite_f c19 h
        by_cases c20 : r16 = ((100 : Int32))
        · have h := ite_t c20 h
          obtain ⟨-, rfl⟩ := ret2 h; exact (show Ext st17 _ from Ext.refl st17)
        · have h := ite_f c20 h
          by_cases c21 : r16 = ((99 : Int32))
          · have h := ite_t c21 h
            obtain ⟨-, rfl⟩ := ret2 h; exact (show Ext st17 _ from Ext.refl st17)
          · have h := ite_f c21 h
            obtain ⟨-, rfl⟩ := ret2 h; exact (show Ext st17 _ from Ext.refl st17)
set_option maxHeartbeats 4000000 in
set_option maxRecDepth 100000 in
theorem c_Mo_run (l : Launch) (D : va_G) (A : Nat → Prop) (b0 : Nat) (cA : Nat → ClassId) (st0 : CwS) (a1 : Int32) (a2 : Int32) (a3 : Int64) (a5 : Int32) (r : Int32) (st' : CwS) (h : j_Mo_run a1 a2 a3 a5 st0 = some (r, st')) : Met l yX9_run (wv yX9_run cX9_run 8 (some .int)) ({ frames := 66, cells := gR st' 101 2 - gR st0 101 2, slots := gR st' 101 3 - gR st0 101 3, locals := 1754 }) (va_Pc [.ref b0, .int a1, .int a2, .long a3, .int a5] (rfU D A b0 cA st0)) (rfQi D A b0 cA r st') (gR st' 101 2 - gR st0 101 2) (gR st' 101 3 - gR st0 101 3) A := by
  refine Met.ofW (cc := cX9_run) (maxL := 8) (ret := some .int) (by decide) rfl ?_
  intro p e s m args below meth c s₁ B hml hv
  obtain ⟨rfl, hP, hD, hz, hK⟩ := hv
  have hx := B.exec
  have hb := B.bytes
  have hr := B.returns
  have hts := atoms_spec (ws := wv yX9_run cX9_run 8 (some .int)) B.pre
  have hown : s.vm.findClass RX9 = some m.cls := findClass_of_methodNamed B.named
  have hlocks := B.notSynchronized
  have hO : rfO D A b0 cA s st0 s.heap [] := ⟨hP, hD, va_S.rf, hz⟩
  have hl := lv_entry ([.ref b0, .int a1, .int a2, .long a3, .int a5]) (n := 8) (Nat.le_of_ble_eq_true rfl)
  rw [lg_entry_eq]
  generalize (lg_sl ([.ref b0, .int a1, .int a2, .long a3, .int a5]) ++ List.replicate (8 - (lg_sl ([.ref b0, .int a1, .int a2, .long a3, .int a5])).length) Slot.unset).toArray = ls at hl ⊢
  have hl : lv_has ls 8 [(0, .ref b0), (1, .int a1), (2, .int a2), (3, .long a3), (5, .int a5)] := hl
  have hgw := fun (w : Cond) (h : w ∈ gwW) => hts w (List.mem_cons_of_mem _ h)
  have k64 := hgw _ w_6e237316
  have k124 := hgw _ w_4df17ecc
  have k128 := hgw _ w_e76b45dd
  have k156 := hgw _ w_f30ac9b6
  have k193 := hgw _ w_6cc0f4a7
  have k203 := hgw _ w_6c3d7dd0
  have k206 := hgw _ w_81fdb2eb
  have k212 := hgw _ w_a74db918
  have k217 := hgw _ w_efe6a0f8
  unfold j_Mo_run at h
  have E_st0 := Ext.refl st0
  refine W.widen (k := gR st0 101 2 - gR st0 101 2) (n := gR st0 101 3 - gR st0 101 3) (Nat.zero_le _) (Nat.zero_le _) ?_
  refine lv_aload_n hx hb dX9_run_0 rfl (lv_at hl 0 rfl) ?_
  refine lv_iload_n hx hb dX9_run_1 rfl (lv_at hl 1 rfl) ?_
  refine lv_iload_n hx hb dX9_run_2 rfl (lv_at hl 2 rfl) ?_
  have y_st2 : Ext st0 st' := by
    obtain ⟨r1, st2, h3, h⟩ := bR_some h
    refine Ext.trans (a := st0) (b := st2) (by have t := x_Mo_isBehaviour h3; exact t) ?_
    by_cases c4 : r1 = ((0 : Int32))
    · have h := ite_t c4 h
      obtain ⟨-, rfl⟩ := ret2 h; exact (show Ext st2 _ from Ext.refl st2)
    · have h := ite_f c4 h
      obtain ⟨r5, st6, h7, h⟩ := bR_some h
      refine Ext.trans (a := st2) (b := st6) (by have t := x_Mo_isIn h7; exact t) ?_
      by_cases c8 : r5 = ((0 : Int32))
      · have h := ite_t c8 h
        obtain ⟨-, rfl⟩ := ret2 h; exact (show Ext st6 _ from Ext.refl st6)
      · have h := ite_f c8 h
        obtain ⟨st9, e_st9, h⟩ := bS_some h
        refine Ext.trans (b := st9) (by rw [e_st9]; exact (show Ext st6 _ from Ext.refl st6)) ?_
        obtain ⟨r10, st11, h12, h⟩ := bR_some h
        refine Ext.trans (a := st9) (b := st11) (by have t := x_Mo_frame h12; exact t) ?_
        obtain ⟨-, h⟩ := ck_some h
        obtain ⟨st14, h15, h⟩ := bV_some h
        refine Ext.trans (a := st11) (b := st14) (by have t := x_MF_number h15; exact t) ?_
        obtain ⟨r16, st17, h18, h⟩ := bR_some h
        refine Ext.trans (a := st14) (b := st17) (by have t := x_Mo_ran 11 _ _ _ _ _ h18; exact t) ?_
        by_cases c19 : r16 = ((100 : Int32))
        · have h := ite_t c19 h
          by_cases c22 : r16 = ((100 : Int32))
          · have h := ite_t c22 h
            obtain ⟨-, rfl⟩ := ret2 h; exact (show Ext st17 _ from Ext.refl st17)
          · have h := ite_f c22 h
            by_cases c23 : r16 = ((99 : Int32))
            · have h := ite_t c23 h
              obtain ⟨-, rfl⟩ := ret2 h; exact (show Ext st17 _ from Ext.refl st17)
            · have h := ite_f c23 h
              obtain ⟨-, rfl⟩ := ret2 h; exact (show Ext st17 _ from Ext.refl st17)
        · have h := ite_f c19 h
          by_cases c20 : r16 = ((100 : Int32))
          · have h := ite_t c20 h
            obtain ⟨-, rfl⟩ := ret2 h; exact (show Ext st17 _ from Ext.refl st17)
          · have h := ite_f c20 h
            by_cases c21 : r16 = ((99 : Int32))
            · have h := ite_t c21 h
              obtain ⟨-, rfl⟩ := ret2 h; exact (show Ext st17 _ from Ext.refl st17)
            · have h := ite_f c21 h
              obtain ⟨-, rfl⟩ := ret2 h; exact (show Ext st17 _ from Ext.refl st17)
  obtain ⟨r1, st2, h3, h⟩ := bR_some h
  have x_st2 : Ext st0 st2 := by have t := x_Mo_isBehaviour h3; exact t
  refine rf_calli (va_runV (As := [.int a1, .int a2]) (rest := []) ⟨hx, hb, hml, hown, hts⟩ (c_Mo_isBehaviour l D A b0 cA st0 a1 a2 r1 st2 h3) (cwV 2 hts (gw_V w_b230e3ee w_20c22ce8 w_9427cb5f w_18f41a94 w_4419c06f) rfl rfl rfl (by decide +kernel) ⟨by show 2 + 1 ≤ 66; omega, by show 8 + (3 + 11) + (43) ≤ 1754; omega⟩) (rf_preM hK hO) rfl rfl hl.1 rfl (lv_room (Nat.le_of_ble_eq_true rfl)) dX9_run_3 ⟨by have q1 := E_st0; have q2 := y_st2; unfold Ext at q1 q2; show (gR st0 101 2 - gR st0 101 2) + 0 ≤ gR st' 101 2 - gR st0 101 2; omega, by have q1 := E_st0; have q2 := y_st2; unfold Ext at q1 q2; show (gR st0 101 3 - gR st0 101 3) + 0 ≤ gR st' 101 3 - gR st0 101 3; omega⟩) hO (fun H locs hO => ?_)
  have E_st2 : Ext st0 st2 := E_st0.trans x_st2
  refine W.widen (k := gR st2 101 2 - gR st0 101 2) (n := gR st2 101 3 - gR st0 101 3) (by have q1 := E_st0; have q2 := x_st2; unfold Ext at q1 q2; omega) (by have q1 := E_st0; have q2 := x_st2; unfold Ext at q1 q2; omega) ?_
  refine lv_if_eq (tgt := 21) hx hb dX9_run_6 (by decide) (fun c4 => ?_) (fun c4 => ?_)
  · have h := ite_t c4 h
    refine lv_iconst (v := -1) hx hb dX9_run_21 (by decide) ?_
    obtain ⟨rfl, rfl⟩ := ret2 h; exact rf_iret hx hb hr hlocks hO dX9_run_22
  · have h := ite_f c4 h
    refine lv_iload hx hb dX9_run_9 (lv_at hl 4 rfl) ?_
    refine lv_iconst (v := 0) hx hb dX9_run_11 (by decide) ?_
    refine lv_sipush (v := 600) hx hb dX9_run_12 (by decide) ?_
    have y_st6 : Ext st2 st' := by
      obtain ⟨r5, st6, h7, h⟩ := bR_some h
      refine Ext.trans (a := st2) (b := st6) (by have t := x_Mo_isIn h7; exact t) ?_
      by_cases c8 : r5 = ((0 : Int32))
      · have h := ite_t c8 h
        obtain ⟨-, rfl⟩ := ret2 h; exact (show Ext st6 _ from Ext.refl st6)
      · have h := ite_f c8 h
        obtain ⟨st9, e_st9, h⟩ := bS_some h
        refine Ext.trans (b := st9) (by rw [e_st9]; exact (show Ext st6 _ from Ext.refl st6)) ?_
        obtain ⟨r10, st11, h12, h⟩ := bR_some h
        refine Ext.trans (a := st9) (b := st11) (by have t := x_Mo_frame h12; exact t) ?_
        obtain ⟨-, h⟩ := ck_some h
        obtain ⟨st14, h15, h⟩ := bV_some h
        refine Ext.trans (a := st11) (b := st14) (by have t := x_MF_number h15; exact t) ?_
        obtain ⟨r16, st17, h18, h⟩ := bR_some h
        refine Ext.trans (a := st14) (b := st17) (by have t := x_Mo_ran 11 _ _ _ _ _ h18; exact t) ?_
        by_cases c19 : r16 = ((100 : Int32))
        · have h := ite_t c19 h
          by_cases c22 : r16 = ((100 : Int32))
          · have h := ite_t c22 h
            obtain ⟨-, rfl⟩ := ret2 h; exact (show Ext st17 _ from Ext.refl st17)
          · have h := ite_f c22 h
            by_cases c23 : r16 = ((99 : Int32))
            · have h := ite_t c23 h
              obtain ⟨-, rfl⟩ := ret2 h; exact (show Ext st17 _ from Ext.refl st17)
            · have h := ite_f c23 h
              obtain ⟨-, rfl⟩ := ret2 h; exact (show Ext st17 _ from Ext.refl st17)
        · have h := ite_f c19 h
          by_cases c20 : r16 = ((100 : Int32))
          · have h := ite_t c20 h
            obtain ⟨-, rfl⟩ := ret2 h; exact (show Ext st17 _ from Ext.refl st17)
          · have h := ite_f c20 h
            by_cases c21 : r16 = ((99 : Int32))
            · have h := ite_t c21 h
              obtain ⟨-, rfl⟩ := ret2 h; exact (show Ext st17 _ from Ext.refl st17)
            · have h := ite_f c21 h
              obtain ⟨-, rfl⟩ := ret2 h; exact (show Ext st17 _ from Ext.refl st17)
    obtain ⟨r5, st6, h7, h⟩ := bR_some h
    have x_st6 : Ext st2 st6 := by have t := x_Mo_isIn h7; exact t
    refine rf_calli (va_runS (As := [.int a5, .int ((0 : Int32)), .int ((600 : Int32))]) (rest := []) ⟨hx, hb, hml, hown, hts⟩ (c_Mo_isIn l D A b0 cA st2 a5 ((0 : Int32)) ((600 : Int32)) r5 st6 h7) (va_cwS 3 hts (gw_S w_b104d635 w_dc566d63 w_18f41a94 w_c8674231) rfl rfl rfl (by decide +kernel) ⟨by show 0 + 1 ≤ 66; omega, by show 8 + (3 + 11) + (0) ≤ 1754; omega⟩) (rf_preS hK hO) rfl rfl hl.1 rfl (lv_room (Nat.le_of_ble_eq_true rfl)) dX9_run_15 ⟨by have q1 := E_st2; have q2 := y_st6; unfold Ext at q1 q2; show (gR st2 101 2 - gR st0 101 2) + 0 ≤ gR st' 101 2 - gR st0 101 2; omega, by have q1 := E_st2; have q2 := y_st6; unfold Ext at q1 q2; show (gR st2 101 3 - gR st0 101 3) + 0 ≤ gR st' 101 3 - gR st0 101 3; omega⟩) hO (fun H locs hO => ?_)
    have E_st6 : Ext st0 st6 := E_st2.trans x_st6
    refine W.widen (k := gR st6 101 2 - gR st0 101 2) (n := gR st6 101 3 - gR st0 101 3) (by have q1 := E_st2; have q2 := x_st6; unfold Ext at q1 q2; omega) (by have q1 := E_st2; have q2 := x_st6; unfold Ext at q1 q2; omega) ?_
    refine lv_if_ne (tgt := 23) hx hb dX9_run_18 (by decide) (fun c8 => ?_) (fun c8 => ?_)
    · have h := ite_f c8 h
      refine lv_aload_n hx hb dX9_run_23 rfl (lv_at hl 0 rfl) ?_
      refine lv_iconst (v := 0) hx hb dX9_run_24 (by decide) ?_
      refine pf_Mo_events hx hb hgw iwMo hown hK hO k128 dX9_run_25 (fun H locs hO => ?_)
      refine lv_aload_n hx hb dX9_run_28 rfl (lv_at hl 0 rfl) ?_
      refine lv_lconst (v := 0) hx hb dX9_run_29 (by decide) ?_
      refine pf_Mo_given hx hb hgw iwMo hown hK hO k217 dX9_run_30 (fun H locs hO => ?_)
      refine lv_aload_n hx hb dX9_run_33 rfl (lv_at hl 0 rfl) ?_
      refine lv_iconst (v := 0) hx hb dX9_run_34 (by decide) ?_
      refine pf_Mo_taken hx hb hgw iwMo hown hK hO k64 dX9_run_35 (fun H locs hO => ?_)
      refine lv_aload_n hx hb dX9_run_38 rfl (lv_at hl 0 rfl) ?_
      refine lv_iconst (v := 0) hx hb dX9_run_39 (by decide) ?_
      refine pf_Mo_failures hx hb hgw iwMo hown hK hO k212 dX9_run_40 (fun H locs hO => ?_)
      refine lv_aload_n hx hb dX9_run_43 rfl (lv_at hl 0 rfl) ?_
      refine lv_iconst (v := 0) hx hb dX9_run_44 (by decide) ?_
      refine pf_Mo_most hx hb hgw iwMo hown hK hO k193 dX9_run_45 (fun H locs hO => ?_)
      refine lv_aload_n hx hb dX9_run_48 rfl (lv_at hl 0 rfl) ?_
      refine lv_iconst (v := 0) hx hb dX9_run_49 (by decide) ?_
      refine pf_Mo_well hx hb hgw iwMo hown hK hO k203 dX9_run_50 (fun H locs hO => ?_)
      refine lv_aload_n hx hb dX9_run_53 rfl (lv_at hl 0 rfl) ?_
      refine lv_iconst (v := 0) hx hb dX9_run_54 (by decide) ?_
      refine pf_Mo_undone hx hb hgw iwMo hown hK hO k206 dX9_run_55 (fun H locs hO => ?_)
      refine lv_aload_n hx hb dX9_run_58 rfl (lv_at hl 0 rfl) ?_
      refine lv_iconst (v := 0) hx hb dX9_run_59 (by decide) ?_
      refine pf_Mo_calls hx hb hgw iwMo hown hK hO k156 dX9_run_60 (fun H locs hO => ?_)
      refine lv_aload_n hx hb dX9_run_63 rfl (lv_at hl 0 rfl) ?_
      refine lv_iload_n hx hb dX9_run_64 rfl (lv_at hl 1 rfl) ?_
      refine lv_iconst (v := -1) hx hb dX9_run_65 (by decide) ?_
      refine lv_iload_n hx hb dX9_run_66 rfl (lv_at hl 2 rfl) ?_
      refine lv_iload hx hb dX9_run_67 (lv_at hl 4 rfl) ?_
      obtain ⟨st9, e_st9, h⟩ := bS_some h
      rw [← e_st9] at hO
      have E_st9 : Ext st0 st9 := E_st6.trans (by rw [e_st9]; exact (show Ext st6 _ from Ext.refl st6))
      refine W.widen (k := gR st9 101 2 - gR st0 101 2) (n := gR st9 101 3 - gR st0 101 3) (by rw [e_st9]; exact Nat.le_refl _) (by rw [e_st9]; exact Nat.le_refl _) ?_
      have y_st11 : Ext st9 st' := by
        obtain ⟨r10, st11, h12, h⟩ := bR_some h
        refine Ext.trans (a := st9) (b := st11) (by have t := x_Mo_frame h12; exact t) ?_
        obtain ⟨-, h⟩ := ck_some h
        obtain ⟨st14, h15, h⟩ := bV_some h
        refine Ext.trans (a := st11) (b := st14) (by have t := x_MF_number h15; exact t) ?_
        obtain ⟨r16, st17, h18, h⟩ := bR_some h
        refine Ext.trans (a := st14) (b := st17) (by have t := x_Mo_ran 11 _ _ _ _ _ h18; exact t) ?_
        by_cases c19 : r16 = ((100 : Int32))
        · have h := ite_t c19 h
          by_cases c22 : r16 = ((100 : Int32))
          · have h := ite_t c22 h
            obtain ⟨-, rfl⟩ := ret2 h; exact (show Ext st17 _ from Ext.refl st17)
          · have h := ite_f c22 h
            by_cases c23 : r16 = ((99 : Int32))
            · have h := ite_t c23 h
              obtain ⟨-, rfl⟩ := ret2 h; exact (show Ext st17 _ from Ext.refl st17)
            · have h := ite_f c23 h
              obtain ⟨-, rfl⟩ := ret2 h; exact (show Ext st17 _ from Ext.refl st17)
        · have h := ite_f c19 h
          by_cases c20 : r16 = ((100 : Int32))
          · have h := ite_t c20 h
            obtain ⟨-, rfl⟩ := ret2 h; exact (show Ext st17 _ from Ext.refl st17)
          · have h := ite_f c20 h
            by_cases c21 : r16 = ((99 : Int32))
            · have h := ite_t c21 h
              obtain ⟨-, rfl⟩ := ret2 h; exact (show Ext st17 _ from Ext.refl st17)
            · have h := ite_f c21 h
              obtain ⟨-, rfl⟩ := ret2 h; exact (show Ext st17 _ from Ext.refl st17)
      obtain ⟨r10, st11, h12, h⟩ := bR_some h
      have x_st11 : Ext st9 st11 := by have t := x_Mo_frame h12; exact t
      obtain ⟨hc24, h⟩ := ck_some h
      have y2_st11 : Ext st11 st' := by
        obtain ⟨st14, h15, h⟩ := bV_some h
        refine Ext.trans (a := st11) (b := st14) (by have t := x_MF_number h15; exact t) ?_
        obtain ⟨r16, st17, h18, h⟩ := bR_some h
        refine Ext.trans (a := st14) (b := st17) (by have t := x_Mo_ran 11 _ _ _ _ _ h18; exact t) ?_
        by_cases c19 : r16 = ((100 : Int32))
        · have h := ite_t c19 h
          by_cases c22 : r16 = ((100 : Int32))
          · have h := ite_t c22 h
            obtain ⟨-, rfl⟩ := ret2 h; exact (show Ext st17 _ from Ext.refl st17)
          · have h := ite_f c22 h
            by_cases c23 : r16 = ((99 : Int32))
            · have h := ite_t c23 h
              obtain ⟨-, rfl⟩ := ret2 h; exact (show Ext st17 _ from Ext.refl st17)
            · have h := ite_f c23 h
              obtain ⟨-, rfl⟩ := ret2 h; exact (show Ext st17 _ from Ext.refl st17)
        · have h := ite_f c19 h
          by_cases c20 : r16 = ((100 : Int32))
          · have h := ite_t c20 h
            obtain ⟨-, rfl⟩ := ret2 h; exact (show Ext st17 _ from Ext.refl st17)
          · have h := ite_f c20 h
            by_cases c21 : r16 = ((99 : Int32))
            · have h := ite_t c21 h
              obtain ⟨-, rfl⟩ := ret2 h; exact (show Ext st17 _ from Ext.refl st17)
            · have h := ite_f c21 h
              obtain ⟨-, rfl⟩ := ret2 h; exact (show Ext st17 _ from Ext.refl st17)
      refine rf_callr (va_runV (As := [.int a1, .int ((-1 : Int32)), .int a2, .int a5]) (rest := []) ⟨hx, hb, hml, hown, hts⟩ (c_Mo_frame l D A b0 cA st9 a1 ((-1 : Int32)) a2 a5 r10 st11 h12) (cwV 4 hts (gw_V w_69f9da88 w_79042909 w_ec1f1e80 w_18f41a94 w_93cd893c) rfl rfl rfl (by decide +kernel) ⟨by show 3 + 1 ≤ 66; omega, by show 8 + (5 + 11) + (80) ≤ 1754; omega⟩) (rf_preM hK hO) rfl rfl hl.1 rfl (lv_room (Nat.le_of_ble_eq_true rfl)) dX9_run_69 ⟨by have q1 := E_st9; have q2 := x_st11; have q3 := y2_st11; unfold Ext at q1 q2 q3; show (gR st9 101 2 - gR st0 101 2) + (gR st11 101 2 - gR st9 101 2) ≤ gR st' 101 2 - gR st0 101 2; omega, by have q1 := E_st9; have q2 := x_st11; have q3 := y2_st11; unfold Ext at q1 q2 q3; show (gR st9 101 3 - gR st0 101 3) + (gR st11 101 3 - gR st9 101 3) ≤ gR st' 101 3 - gR st0 101 3; omega⟩) hO (fun fr10 H locs hfr_r10 hO => ?_)
      have hf_fr10 : rfF st11 r10 fr10 := ⟨ck_lt hc24, hfr_r10⟩
      have E_st11 : Ext st0 st11 := E_st9.trans x_st11
      refine W.widen (k := gR st11 101 2 - gR st0 101 2) (n := gR st11 101 3 - gR st0 101 3) (by have q1 := E_st9; have q2 := x_st11; unfold Ext at q1 q2; omega) (by have q1 := E_st9; have q2 := x_st11; unfold Ext at q1 q2; omega) ?_
      refine lv_astore (lv' := [(6, .ref fr10), (0, .ref b0), (1, .int a1), (2, .int a2), (3, .long a3), (5, .int a5)]) hx hb dX9_run_72 hl (by decide) rfl (fun ls hl => ?_)
      refine lv_aload hx hb dX9_run_74 (lv_at hl 0 rfl) ?_
      refine lv_lload_n hx hb dX9_run_76 rfl (lv_at hl 4 rfl) ?_
      have y_st14 : Ext st11 st' := by
        obtain ⟨st14, h15, h⟩ := bV_some h
        refine Ext.trans (a := st11) (b := st14) (by have t := x_MF_number h15; exact t) ?_
        obtain ⟨r16, st17, h18, h⟩ := bR_some h
        refine Ext.trans (a := st14) (b := st17) (by have t := x_Mo_ran 11 _ _ _ _ _ h18; exact t) ?_
        by_cases c19 : r16 = ((100 : Int32))
        · have h := ite_t c19 h
          by_cases c22 : r16 = ((100 : Int32))
          · have h := ite_t c22 h
            obtain ⟨-, rfl⟩ := ret2 h; exact (show Ext st17 _ from Ext.refl st17)
          · have h := ite_f c22 h
            by_cases c23 : r16 = ((99 : Int32))
            · have h := ite_t c23 h
              obtain ⟨-, rfl⟩ := ret2 h; exact (show Ext st17 _ from Ext.refl st17)
            · have h := ite_f c23 h
              obtain ⟨-, rfl⟩ := ret2 h; exact (show Ext st17 _ from Ext.refl st17)
        · have h := ite_f c19 h
          by_cases c20 : r16 = ((100 : Int32))
          · have h := ite_t c20 h
            obtain ⟨-, rfl⟩ := ret2 h; exact (show Ext st17 _ from Ext.refl st17)
          · have h := ite_f c20 h
            by_cases c21 : r16 = ((99 : Int32))
            · have h := ite_t c21 h
              obtain ⟨-, rfl⟩ := ret2 h; exact (show Ext st17 _ from Ext.refl st17)
            · have h := ite_f c21 h
              obtain ⟨-, rfl⟩ := ret2 h; exact (show Ext st17 _ from Ext.refl st17)
      obtain ⟨st14, h15, h⟩ := bV_some h
      have x_st14 : Ext st11 st14 := by have t := x_MF_number h15; exact t
      refine rf_callv (va_runV (As := [.long a3]) (rest := []) ⟨hx, hb, hml, hown, hts⟩ (c_MF_number l D A b0 cA st11 r10 fr10 hf_fr10 a3 st14 h15) (cwV 1 hts (gw_V w_a50611e6 w_8ebaf0f1 w_dd21e4d3 w_18ea82d2 w_54e1986d) rfl rfl rfl (by decide +kernel) ⟨by show 1 + 1 ≤ 66; omega, by show 8 + (3 + 11) + (24) ≤ 1754; omega⟩) (rf_preF hf_fr10 hK hO) rfl rfl hl.1 rfl (lv_room (Nat.le_of_ble_eq_true rfl)) dX9_run_77 ⟨by have q1 := E_st11; have q2 := y_st14; unfold Ext at q1 q2; show (gR st11 101 2 - gR st0 101 2) + 0 ≤ gR st' 101 2 - gR st0 101 2; omega, by have q1 := E_st11; have q2 := y_st14; unfold Ext at q1 q2; show (gR st11 101 3 - gR st0 101 3) + 0 ≤ gR st' 101 3 - gR st0 101 3; omega⟩) hO (fun H locs hO => ?_)
      have hf_fr10 : rfF st14 r10 fr10 := rfF.ext (show rfF st11 r10 fr10 from hf_fr10) x_st14
      have E_st14 : Ext st0 st14 := E_st11.trans x_st14
      refine W.widen (k := gR st14 101 2 - gR st0 101 2) (n := gR st14 101 3 - gR st0 101 3) (by have q1 := E_st11; have q2 := x_st14; unfold Ext at q1 q2; omega) (by have q1 := E_st11; have q2 := x_st14; unfold Ext at q1 q2; omega) ?_
      refine lv_aload_n hx hb dX9_run_80 rfl (lv_at hl 1 rfl) ?_
      refine lv_aload hx hb dX9_run_81 (lv_at hl 0 rfl) ?_
      refine lv_lconst (v := 0) hx hb dX9_run_83 (by decide) ?_
      have y_st17 : Ext st14 st' := by
        obtain ⟨r16, st17, h18, h⟩ := bR_some h
        refine Ext.trans (a := st14) (b := st17) (by have t := x_Mo_ran 11 _ _ _ _ _ h18; exact t) ?_
        by_cases c19 : r16 = ((100 : Int32))
        · have h := ite_t c19 h
          by_cases c22 : r16 = ((100 : Int32))
          · have h := ite_t c22 h
            obtain ⟨-, rfl⟩ := ret2 h; exact (show Ext st17 _ from Ext.refl st17)
          · have h := ite_f c22 h
            by_cases c23 : r16 = ((99 : Int32))
            · have h := ite_t c23 h
              obtain ⟨-, rfl⟩ := ret2 h; exact (show Ext st17 _ from Ext.refl st17)
            · have h := ite_f c23 h
              obtain ⟨-, rfl⟩ := ret2 h; exact (show Ext st17 _ from Ext.refl st17)
        · have h := ite_f c19 h
          by_cases c20 : r16 = ((100 : Int32))
          · have h := ite_t c20 h
            obtain ⟨-, rfl⟩ := ret2 h; exact (show Ext st17 _ from Ext.refl st17)
          · have h := ite_f c20 h
            by_cases c21 : r16 = ((99 : Int32))
            · have h := ite_t c21 h
              obtain ⟨-, rfl⟩ := ret2 h; exact (show Ext st17 _ from Ext.refl st17)
            · have h := ite_f c21 h
              obtain ⟨-, rfl⟩ := ret2 h; exact (show Ext st17 _ from Ext.refl st17)
      obtain ⟨r16, st17, h18, h⟩ := bR_some h
      have x_st17 : Ext st14 st17 := by have t := x_Mo_ran 11 _ _ _ _ _ h18; exact t
      have y2_st17 : Ext st17 st' := by
        by_cases c19 : r16 = ((100 : Int32))
        · have h := ite_t c19 h
          by_cases c22 : r16 = ((100 : Int32))
          · have h := ite_t c22 h
            obtain ⟨-, rfl⟩ := ret2 h; exact (show Ext st17 _ from Ext.refl st17)
          · have h := ite_f c22 h
            by_cases c23 : r16 = ((99 : Int32))
            · have h := ite_t c23 h
              obtain ⟨-, rfl⟩ := ret2 h; exact (show Ext st17 _ from Ext.refl st17)
            · have h := ite_f c23 h
              obtain ⟨-, rfl⟩ := ret2 h; exact (show Ext st17 _ from Ext.refl st17)
        · have h := ite_f c19 h
          by_cases c20 : r16 = ((100 : Int32))
          · have h := ite_t c20 h
            obtain ⟨-, rfl⟩ := ret2 h; exact (show Ext st17 _ from Ext.refl st17)
          · have h := ite_f c20 h
            by_cases c21 : r16 = ((99 : Int32))
            · have h := ite_t c21 h
              obtain ⟨-, rfl⟩ := ret2 h; exact (show Ext st17 _ from Ext.refl st17)
            · have h := ite_f c21 h
              obtain ⟨-, rfl⟩ := ret2 h; exact (show Ext st17 _ from Ext.refl st17)
      refine rf_calli (va_runV (As := [.ref fr10, .long ((0 : Int64))]) (rest := []) ⟨hx, hb, hml, hown, hts⟩ (c_Mo_ran l D A b0 cA 11 st14 r10 fr10 hf_fr10 ((0 : Int64)) r16 st17 h18) (cwV 2 hts (gw_V w_9af1e83a w_08df12e9 w_4c2aadfc w_18f41a94 w_e2b6d88b) rfl rfl rfl (by decide +kernel) ⟨by show 65 + 1 ≤ 66; omega, by show 8 + (6 + 11) + (1729) ≤ 1754; omega⟩) (rf_preM hK hO) rfl rfl hl.1 rfl (lv_room (Nat.le_of_ble_eq_true rfl)) dX9_run_84 ⟨by have q1 := E_st14; have q2 := x_st17; have q3 := y2_st17; unfold Ext at q1 q2 q3; show (gR st14 101 2 - gR st0 101 2) + (gR st17 101 2 - gR st14 101 2) ≤ gR st' 101 2 - gR st0 101 2; omega, by have q1 := E_st14; have q2 := x_st17; have q3 := y2_st17; unfold Ext at q1 q2 q3; show (gR st14 101 3 - gR st0 101 3) + (gR st17 101 3 - gR st14 101 3) ≤ gR st' 101 3 - gR st0 101 3; omega⟩) hO (fun H locs hO => ?_)
      have hf_fr10 : rfF st17 r10 fr10 := rfF.ext (show rfF st14 r10 fr10 from hf_fr10) x_st17
      have E_st17 : Ext st0 st17 := E_st14.trans x_st17
      refine W.widen (k := gR st17 101 2 - gR st0 101 2) (n := gR st17 101 3 - gR st0 101 3) (by have q1 := E_st14; have q2 := x_st17; unfold Ext at q1 q2; omega) (by have q1 := E_st14; have q2 := x_st17; unfold Ext at q1 q2; omega) ?_
      refine lv_istore (lv' := [(7, .int r16), (6, .ref fr10), (0, .ref b0), (1, .int a1), (2, .int a2), (3, .long a3), (5, .int a5)]) hx hb dX9_run_87 hl (by decide) rfl (fun ls hl => ?_)
      refine lv_aload_n hx hb dX9_run_89 rfl (lv_at hl 2 rfl) ?_
      refine lv_iload hx hb dX9_run_90 (lv_at hl 0 rfl) ?_
      refine lv_bipush (v := 100) hx hb dX9_run_92 (by decide) ?_
      refine lv_icmp_ne (tgt := 105) hx hb dX9_run_94 (by decide) (fun c19 => ?_) (fun c19 => ?_)
      · have h := ite_f c19 h
        refine lv_lconst (v := 0) hx hb dX9_run_105 (by decide) ?_
        refine pf_Mo_given hx hb hgw iwMo hown hK hO k217 dX9_run_106 (fun H locs hO => ?_)
        refine lv_iload hx hb dX9_run_109 (lv_at hl 0 rfl) ?_
        refine lv_bipush (v := 100) hx hb dX9_run_111 (by decide) ?_
        refine lv_icmp_ne (tgt := 120) hx hb dX9_run_113 (by decide) (fun c20 => ?_) (fun c20 => ?_)
        · have h := ite_f c20 h
          refine lv_iload hx hb dX9_run_120 (lv_at hl 0 rfl) ?_
          refine lv_bipush (v := 99) hx hb dX9_run_122 (by decide) ?_
          refine lv_icmp_ne (tgt := 132) hx hb dX9_run_124 (by decide) (fun c21 => ?_) (fun c21 => ?_)
          · have h := ite_f c21 h
            refine lv_iload hx hb dX9_run_132 (lv_at hl 0 rfl) ?_
            obtain ⟨rfl, rfl⟩ := ret2 h; exact rf_iret hx hb hr hlocks hO dX9_run_134
          · have h := ite_t c21 h
            refine lv_bipush (v := -3) hx hb dX9_run_127 (by decide) ?_
            refine lv_goto (tgt := 134) hx hb dX9_run_129 (by decide) ?_
            obtain ⟨rfl, rfl⟩ := ret2 h; exact rf_iret hx hb hr hlocks hO dX9_run_134
        · have h := ite_t c20 h
          refine lv_iconst (v := 0) hx hb dX9_run_116 (by decide) ?_
          refine lv_goto (tgt := 134) hx hb dX9_run_117 (by decide) ?_
          obtain ⟨rfl, rfl⟩ := ret2 h; exact rf_iret hx hb hr hlocks hO dX9_run_134
      · have h := ite_t c19 h
        refine lv_aload hx hb dX9_run_97 (lv_at hl 1 rfl) ?_
        refine gf_MF_gives hx hb hgw iwMF hown hK hO hf_fr10 k124 dX9_run_99 ?_
        refine lv_goto (tgt := 106) hx hb dX9_run_102 (by decide) ?_
        refine pf_Mo_given hx hb hgw iwMo hown hK hO k217 dX9_run_106 (fun H locs hO => ?_)
        refine lv_iload hx hb dX9_run_109 (lv_at hl 0 rfl) ?_
        refine lv_bipush (v := 100) hx hb dX9_run_111 (by decide) ?_
        refine lv_icmp_ne (tgt := 120) hx hb dX9_run_113 (by decide) (fun c22 => ?_) (fun c22 => ?_)
        · have h := ite_f c22 h
          refine lv_iload hx hb dX9_run_120 (lv_at hl 0 rfl) ?_
          refine lv_bipush (v := 99) hx hb dX9_run_122 (by decide) ?_
          refine lv_icmp_ne (tgt := 132) hx hb dX9_run_124 (by decide) (fun c23 => ?_) (fun c23 => ?_)
          · have h := ite_f c23 h
            refine lv_iload hx hb dX9_run_132 (lv_at hl 0 rfl) ?_
            obtain ⟨rfl, rfl⟩ := ret2 h; exact rf_iret hx hb hr hlocks hO dX9_run_134
          · have h := ite_t c23 h
            refine lv_bipush (v := -3) hx hb dX9_run_127 (by decide) ?_
            refine lv_goto (tgt := 134) hx hb dX9_run_129 (by decide) ?_
            obtain ⟨rfl, rfl⟩ := ret2 h; exact rf_iret hx hb hr hlocks hO dX9_run_134
        · have h := ite_t c22 h
          refine lv_iconst (v := 0) hx hb dX9_run_116 (by decide) ?_
          refine lv_goto (tgt := 134) hx hb dX9_run_117 (by decide) ?_
          obtain ⟨rfl, rfl⟩ := ret2 h; exact rf_iret hx hb hr hlocks hO dX9_run_134
    · have h := ite_t c8 h
      refine lv_iconst (v := -1) hx hb dX9_run_21 (by decide) ?_
      obtain ⟨rfl, rfl⟩ := ret2 h; exact rf_iret hx hb hr hlocks hO dX9_run_22
