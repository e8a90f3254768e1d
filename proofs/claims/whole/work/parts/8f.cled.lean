set_option maxRecDepth 100000 in
theorem w_975228e4 : Cond.methodLink RX3 3 objectInit ∈ gwW := gw_at 97 rfl rfl
set_option maxRecDepth 100000 in
theorem w_46b88e66 : Cond.classLink RX3 29 "[[J" ∈ gwW := gw_at 98 rfl rfl
set_option maxHeartbeats 4000000 in
set_option maxRecDepth 100000 in
theorem cx_Ledger_init (l : Launch) (D : va_G) (cA : Nat → ClassId) (b n k0 : Nat) (hk0 : k0 < n) (g : Nat → va_E) (Y0 : g k0 = .inr (3, [.null, .null, .null, .null, .int 0, .null, .null, .null])) : Met l yX3_init (wv yX3_init cX3_init 1 none) ({ frames := 1, cells := 27, slots := 902, locals := 12 }) (va_Pc [.ref (b + k0)] (cxU D cA b n g)) (cxQ D b (n + 27) (fun g2 => g2 (k0) = .inr (3, [.ref (b + (n)), .ref (b + (n + 1)), .ref (b + (n + 2)), .ref (b + (n + 3)), .int 0, .ref (b + (n + 4)), .ref (b + (n + 15)), .ref (b + (n + 26))]) ∧ g2 (n) = .inl (cA 1, 64, .inr (.inl (fun _ => 0))) ∧ g2 (n + 1) = .inl (cA 1, 8, .inr (.inl (fun _ => 0))) ∧ g2 (n + 2) = .inl (cA 0, 40, .inl (fun _ => 0)) ∧ g2 (n + 3) = .inl (cA 1, 40, .inr (.inl (fun _ => 0))) ∧ g2 (n + 4) = .inl (cA 5, 10, .inr (.inr (.inr (.inr (fun i => if i < 10 then some (b + (n + 4) + 1 + i) else none))))) ∧ g2 (n + 15) = .inl (cA 5, 10, .inr (.inr (.inr (.inr (fun i => if i < 10 then some (b + (n + 15) + 1 + i) else none))))) ∧ g2 (n + 26) = .inl (cA 0, 10, .inl (fun _ => 0)) ∧ (∀ j, j < 10 → g2 (n + 5 + j) = .inl (cA 1, 64, .inr (.inl (fun _ => 0)))) ∧ (∀ j, j < 10 → g2 (n + 16 + j) = .inl (cA 1, 8, .inr (.inl (fun _ => 0)))) ∧ ∀ j, j < n → j ≠ k0 → g2 j = g j)) 27 902 (cxA b) := by
  refine Met.ofW (cc := cX3_init) (maxL := 1) (ret := none) (by decide) rfl ?_
  intro p e s m args below meth c s₁ B hml hv
  obtain ⟨rfl, hP, hz, hK, hN⟩ := hv
  have hx := B.exec
  have hb := B.bytes
  have hr := B.returns
  have hts := atoms_spec (ws := wv yX3_init cX3_init 1 none) B.pre
  have hown : s.vm.findClass RX3 = some m.cls := findClass_of_methodNamed B.named
  have hlocks := B.notSynchronized
  have hin : meth.name = "<init>" := (name_of_methodNamed B.named B.method).1
  have hO : cxO D b n g s s.heap [] := ⟨hP, va_S.rf, hz⟩
  have hl := lv_entry ([.ref (b + k0)]) (n := 1) (Nat.le_of_ble_eq_true rfl)
  rw [lg_entry_eq]
  generalize (lg_sl ([.ref (b + k0)]) ++ List.replicate (1 - (lg_sl ([.ref (b + k0)])).length) Slot.unset).toArray = ls at hl ⊢
  have hl : lv_has ls 1 [(0, .ref (b + k0))] := hl
  have hgw := fun (w : Cond) (h : w ∈ gwW) => hts w (List.mem_cons_of_mem _ h)
  have fr : ∀ j, j < n → j ≠ k0 → g j = g j := fun _ _ _ => rfl
  refine lv_aload_n hx hb dX3_init_0 rfl (lv_at hl 0 rfl) ?_
  refine W.objInit hx hb hown (hgw _ w_975228e4) (hgw _ w_fba9d542) (hgw _ w_9febdb7e) rfl (by rw [hml]; exact hl.1) rfl dX3_init_1 (Nat.le_of_ble_eq_true rfl) (Nat.le_of_ble_eq_true rfl) ?_
  refine W.eq (g2 := F0 m 4 ls []) rfl ?_
  refine lv_aload_n hx hb dX3_init_4 rfl (lv_at hl 0 rfl) ?_
  refine lv_bipush (v := 64) hx hb dX3_init_5 (by decide) ?_
  refine cx_newa (atype := .long) (cy := cA 1) (a0 := (64, .inr (.inl (fun _ => 0)))) hx hb (hgw _ w_f2af499d) (hK.2 1 _ rfl).2 hO (fun _ => rfl) (by decide) rfl (by decide) (Nat.le_of_ble_eq_true rfl) (Nat.le_of_ble_eq_true rfl) dX3_init_7 (fun H hO => ?_)
  obtain ⟨g1, hq1⟩ : ∃ x, x = va_up g (n) (.inl (cA 1, 64, .inr (.inl (fun _ => 0)))) := ⟨_, rfl⟩
  rw [← hq1] at hO
  have Y1 : g1 (n) = .inl (cA 1, 64, .inr (.inl (fun _ => 0))) := by rw [hq1]; exact va_up_self _ _ _
  have Y0 : g1 (k0) = .inr (3, [.null, .null, .null, .null, .int 0, .null, .null, .null]) := by rw [hq1, va_up_ne _ _ (by omega)]; exact Y0
  have fr : ∀ j, j < n → j ≠ k0 → g1 j = g j := fun j h1 h2 => by rw [hq1, va_up_ne _ _ (by omega)]; try exact fr j h1 h2
  refine cx_putF (D := D) (cA := cA) (ci := 3) (v := .ref (b + (n))) (ty := .array .long) (C := RX3) (T := TX3) (N := 8) hx hb hgw iwLedger tyX3 tyX3_ok nmX3 hown hK hO (q0 := k0) (by omega) Y0 rfl 0 (by decide) (hgw _ w_23a053dd) (fun _ h => h) rfl hin rfl (by decide +kernel) rfl rfl (Nat.le_of_ble_eq_true rfl) dX3_init_9 (fun H locs hO _ => ?_)
  have hO : cxO D b (n + 1) (va_up g1 k0 (.inr (3, [.ref (b + (n)), .null, .null, .null, .int 0, .null, .null, .null]))) s H locs := hO
  obtain ⟨g2, hq2⟩ : ∃ x, x = va_up g1 (k0) (.inr (3, [.ref (b + (n)), .null, .null, .null, .int 0, .null, .null, .null])) := ⟨_, rfl⟩
  rw [← hq2] at hO
  have Y0 : g2 (k0) = .inr (3, [.ref (b + (n)), .null, .null, .null, .int 0, .null, .null, .null]) := by rw [hq2]; exact va_up_self _ _ _
  have Y1 : g2 (n) = .inl (cA 1, 64, .inr (.inl (fun _ => 0))) := by rw [hq2, va_up_ne _ _ (by omega)]; exact Y1
  have fr : ∀ j, j < n → j ≠ k0 → g2 j = g j := fun j h1 h2 => by rw [hq2, va_up_ne _ _ (by omega)]; try exact fr j h1 h2
  refine lv_aload_n hx hb dX3_init_12 rfl (lv_at hl 0 rfl) ?_
  refine lv_bipush (v := 8) hx hb dX3_init_13 (by decide) ?_
  refine cx_newa (atype := .long) (cy := cA 1) (a0 := (8, .inr (.inl (fun _ => 0)))) hx hb (hgw _ w_f2af499d) (hK.2 1 _ rfl).2 hO (fun _ => rfl) (by decide) rfl (by decide) (Nat.le_of_ble_eq_true rfl) (Nat.le_of_ble_eq_true rfl) dX3_init_15 (fun H hO => ?_)
  obtain ⟨g3, hq3⟩ : ∃ x, x = va_up g2 (n + 1) (.inl (cA 1, 8, .inr (.inl (fun _ => 0)))) := ⟨_, rfl⟩
  rw [← hq3] at hO
  have Y2 : g3 (n + 1) = .inl (cA 1, 8, .inr (.inl (fun _ => 0))) := by rw [hq3]; exact va_up_self _ _ _
  have Y0 : g3 (k0) = .inr (3, [.ref (b + (n)), .null, .null, .null, .int 0, .null, .null, .null]) := by rw [hq3, va_up_ne _ _ (by omega)]; exact Y0
  have Y1 : g3 (n) = .inl (cA 1, 64, .inr (.inl (fun _ => 0))) := by rw [hq3, va_up_ne _ _ (by omega)]; exact Y1
  have fr : ∀ j, j < n → j ≠ k0 → g3 j = g j := fun j h1 h2 => by rw [hq3, va_up_ne _ _ (by omega)]; try exact fr j h1 h2
  refine cx_putF (D := D) (cA := cA) (ci := 3) (v := .ref (b + (n + 1))) (ty := .array .long) (C := RX3) (T := TX3) (N := 8) hx hb hgw iwLedger tyX3 tyX3_ok nmX3 hown hK hO (q0 := k0) (by omega) Y0 rfl 1 (by decide) (hgw _ w_93fec1d4) (fun _ h => h) rfl hin rfl (by decide +kernel) rfl rfl (Nat.le_of_ble_eq_true rfl) dX3_init_17 (fun H locs hO _ => ?_)
  have hO : cxO D b (n + 2) (va_up g3 k0 (.inr (3, [.ref (b + (n)), .ref (b + (n + 1)), .null, .null, .int 0, .null, .null, .null]))) s H locs := hO
  obtain ⟨g4, hq4⟩ : ∃ x, x = va_up g3 (k0) (.inr (3, [.ref (b + (n)), .ref (b + (n + 1)), .null, .null, .int 0, .null, .null, .null])) := ⟨_, rfl⟩
  rw [← hq4] at hO
  have Y0 : g4 (k0) = .inr (3, [.ref (b + (n)), .ref (b + (n + 1)), .null, .null, .int 0, .null, .null, .null]) := by rw [hq4]; exact va_up_self _ _ _
  have Y1 : g4 (n) = .inl (cA 1, 64, .inr (.inl (fun _ => 0))) := by rw [hq4, va_up_ne _ _ (by omega)]; exact Y1
  have Y2 : g4 (n + 1) = .inl (cA 1, 8, .inr (.inl (fun _ => 0))) := by rw [hq4, va_up_ne _ _ (by omega)]; exact Y2
  have fr : ∀ j, j < n → j ≠ k0 → g4 j = g j := fun j h1 h2 => by rw [hq4, va_up_ne _ _ (by omega)]; try exact fr j h1 h2
  refine lv_aload_n hx hb dX3_init_20 rfl (lv_at hl 0 rfl) ?_
  refine lv_bipush (v := 40) hx hb dX3_init_21 (by decide) ?_
  refine cx_newa (atype := .int) (cy := cA 0) (a0 := (40, .inl (fun _ => 0))) hx hb (hgw _ w_d160d5ac) (hK.2 0 _ rfl).2 hO (fun _ => rfl) (by decide) rfl (by decide) (Nat.le_of_ble_eq_true rfl) (Nat.le_of_ble_eq_true rfl) dX3_init_23 (fun H hO => ?_)
  obtain ⟨g5, hq5⟩ : ∃ x, x = va_up g4 (n + 2) (.inl (cA 0, 40, .inl (fun _ => 0))) := ⟨_, rfl⟩
  rw [← hq5] at hO
  have Y3 : g5 (n + 2) = .inl (cA 0, 40, .inl (fun _ => 0)) := by rw [hq5]; exact va_up_self _ _ _
  have Y0 : g5 (k0) = .inr (3, [.ref (b + (n)), .ref (b + (n + 1)), .null, .null, .int 0, .null, .null, .null]) := by rw [hq5, va_up_ne _ _ (by omega)]; exact Y0
  have Y1 : g5 (n) = .inl (cA 1, 64, .inr (.inl (fun _ => 0))) := by rw [hq5, va_up_ne _ _ (by omega)]; exact Y1
  have Y2 : g5 (n + 1) = .inl (cA 1, 8, .inr (.inl (fun _ => 0))) := by rw [hq5, va_up_ne _ _ (by omega)]; exact Y2
  have fr : ∀ j, j < n → j ≠ k0 → g5 j = g j := fun j h1 h2 => by rw [hq5, va_up_ne _ _ (by omega)]; try exact fr j h1 h2
  refine cx_putF (D := D) (cA := cA) (ci := 3) (v := .ref (b + (n + 2))) (ty := .array .int) (C := RX3) (T := TX3) (N := 8) hx hb hgw iwLedger tyX3 tyX3_ok nmX3 hown hK hO (q0 := k0) (by omega) Y0 rfl 2 (by decide) (hgw _ w_ba44a13a) (fun _ h => h) rfl hin rfl (by decide +kernel) rfl rfl (Nat.le_of_ble_eq_true rfl) dX3_init_25 (fun H locs hO _ => ?_)
  have hO : cxO D b (n + 3) (va_up g5 k0 (.inr (3, [.ref (b + (n)), .ref (b + (n + 1)), .ref (b + (n + 2)), .null, .int 0, .null, .null, .null]))) s H locs := hO
  obtain ⟨g6, hq6⟩ : ∃ x, x = va_up g5 (k0) (.inr (3, [.ref (b + (n)), .ref (b + (n + 1)), .ref (b + (n + 2)), .null, .int 0, .null, .null, .null])) := ⟨_, rfl⟩
  rw [← hq6] at hO
  have Y0 : g6 (k0) = .inr (3, [.ref (b + (n)), .ref (b + (n + 1)), .ref (b + (n + 2)), .null, .int 0, .null, .null, .null]) := by rw [hq6]; exact va_up_self _ _ _
  have Y1 : g6 (n) = .inl (cA 1, 64, .inr (.inl (fun _ => 0))) := by rw [hq6, va_up_ne _ _ (by omega)]; exact Y1
  have Y2 : g6 (n + 1) = .inl (cA 1, 8, .inr (.inl (fun _ => 0))) := by rw [hq6, va_up_ne _ _ (by omega)]; exact Y2
  have Y3 : g6 (n + 2) = .inl (cA 0, 40, .inl (fun _ => 0)) := by rw [hq6, va_up_ne _ _ (by omega)]; exact Y3
  have fr : ∀ j, j < n → j ≠ k0 → g6 j = g j := fun j h1 h2 => by rw [hq6, va_up_ne _ _ (by omega)]; try exact fr j h1 h2
  refine lv_aload_n hx hb dX3_init_28 rfl (lv_at hl 0 rfl) ?_
  refine lv_bipush (v := 40) hx hb dX3_init_29 (by decide) ?_
  refine cx_newa (atype := .long) (cy := cA 1) (a0 := (40, .inr (.inl (fun _ => 0)))) hx hb (hgw _ w_f2af499d) (hK.2 1 _ rfl).2 hO (fun _ => rfl) (by decide) rfl (by decide) (Nat.le_of_ble_eq_true rfl) (Nat.le_of_ble_eq_true rfl) dX3_init_31 (fun H hO => ?_)
  obtain ⟨g7, hq7⟩ : ∃ x, x = va_up g6 (n + 3) (.inl (cA 1, 40, .inr (.inl (fun _ => 0)))) := ⟨_, rfl⟩
  rw [← hq7] at hO
  have Y4 : g7 (n + 3) = .inl (cA 1, 40, .inr (.inl (fun _ => 0))) := by rw [hq7]; exact va_up_self _ _ _
  have Y0 : g7 (k0) = .inr (3, [.ref (b + (n)), .ref (b + (n + 1)), .ref (b + (n + 2)), .null, .int 0, .null, .null, .null]) := by rw [hq7, va_up_ne _ _ (by omega)]; exact Y0
  have Y1 : g7 (n) = .inl (cA 1, 64, .inr (.inl (fun _ => 0))) := by rw [hq7, va_up_ne _ _ (by omega)]; exact Y1
  have Y2 : g7 (n + 1) = .inl (cA 1, 8, .inr (.inl (fun _ => 0))) := by rw [hq7, va_up_ne _ _ (by omega)]; exact Y2
  have Y3 : g7 (n + 2) = .inl (cA 0, 40, .inl (fun _ => 0)) := by rw [hq7, va_up_ne _ _ (by omega)]; exact Y3
  have fr : ∀ j, j < n → j ≠ k0 → g7 j = g j := fun j h1 h2 => by rw [hq7, va_up_ne _ _ (by omega)]; try exact fr j h1 h2
  refine cx_putF (D := D) (cA := cA) (ci := 3) (v := .ref (b + (n + 3))) (ty := .array .long) (C := RX3) (T := TX3) (N := 8) hx hb hgw iwLedger tyX3 tyX3_ok nmX3 hown hK hO (q0 := k0) (by omega) Y0 rfl 3 (by decide) (hgw _ w_2b6c9491) (fun _ h => h) rfl hin rfl (by decide +kernel) rfl rfl (Nat.le_of_ble_eq_true rfl) dX3_init_33 (fun H locs hO _ => ?_)
  have hO : cxO D b (n + 4) (va_up g7 k0 (.inr (3, [.ref (b + (n)), .ref (b + (n + 1)), .ref (b + (n + 2)), .ref (b + (n + 3)), .int 0, .null, .null, .null]))) s H locs := hO
  obtain ⟨g8, hq8⟩ : ∃ x, x = va_up g7 (k0) (.inr (3, [.ref (b + (n)), .ref (b + (n + 1)), .ref (b + (n + 2)), .ref (b + (n + 3)), .int 0, .null, .null, .null])) := ⟨_, rfl⟩
  rw [← hq8] at hO
  have Y0 : g8 (k0) = .inr (3, [.ref (b + (n)), .ref (b + (n + 1)), .ref (b + (n + 2)), .ref (b + (n + 3)), .int 0, .null, .null, .null]) := by rw [hq8]; exact va_up_self _ _ _
  have Y1 : g8 (n) = .inl (cA 1, 64, .inr (.inl (fun _ => 0))) := by rw [hq8, va_up_ne _ _ (by omega)]; exact Y1
  have Y2 : g8 (n + 1) = .inl (cA 1, 8, .inr (.inl (fun _ => 0))) := by rw [hq8, va_up_ne _ _ (by omega)]; exact Y2
  have Y3 : g8 (n + 2) = .inl (cA 0, 40, .inl (fun _ => 0)) := by rw [hq8, va_up_ne _ _ (by omega)]; exact Y3
  have Y4 : g8 (n + 3) = .inl (cA 1, 40, .inr (.inl (fun _ => 0))) := by rw [hq8, va_up_ne _ _ (by omega)]; exact Y4
  have fr : ∀ j, j < n → j ≠ k0 → g8 j = g j := fun j h1 h2 => by rw [hq8, va_up_ne _ _ (by omega)]; try exact fr j h1 h2
  refine lv_aload_n hx hb dX3_init_36 rfl (lv_at hl 0 rfl) ?_
  refine lv_iconst (v := 0) hx hb dX3_init_37 (by decide) ?_
  refine cx_put (D := D) (cA := cA) (ci := 3) (v := .int 0) (ty := .int) (C := RX3) (T := TX3) (N := 8) hx hb hgw iwLedger tyX3 tyX3_ok nmX3 hown hK hO (q0 := k0) (by omega) Y0 rfl 4 (by decide) (hgw _ w_0675cc0a) (fun _ h => h) rfl (by decide +kernel) rfl rfl (Nat.le_of_ble_eq_true rfl) dX3_init_38 (fun H locs hO _ => ?_)
  have hO : cxO D b (n + 4) (va_up g8 k0 (.inr (3, [.ref (b + (n)), .ref (b + (n + 1)), .ref (b + (n + 2)), .ref (b + (n + 3)), .int 0, .null, .null, .null]))) s H locs := hO
  obtain ⟨g9, hq9⟩ : ∃ x, x = va_up g8 (k0) (.inr (3, [.ref (b + (n)), .ref (b + (n + 1)), .ref (b + (n + 2)), .ref (b + (n + 3)), .int 0, .null, .null, .null])) := ⟨_, rfl⟩
  rw [← hq9] at hO
  have Y0 : g9 (k0) = .inr (3, [.ref (b + (n)), .ref (b + (n + 1)), .ref (b + (n + 2)), .ref (b + (n + 3)), .int 0, .null, .null, .null]) := by rw [hq9]; exact va_up_self _ _ _
  have Y1 : g9 (n) = .inl (cA 1, 64, .inr (.inl (fun _ => 0))) := by rw [hq9, va_up_ne _ _ (by omega)]; exact Y1
  have Y2 : g9 (n + 1) = .inl (cA 1, 8, .inr (.inl (fun _ => 0))) := by rw [hq9, va_up_ne _ _ (by omega)]; exact Y2
  have Y3 : g9 (n + 2) = .inl (cA 0, 40, .inl (fun _ => 0)) := by rw [hq9, va_up_ne _ _ (by omega)]; exact Y3
  have Y4 : g9 (n + 3) = .inl (cA 1, 40, .inr (.inl (fun _ => 0))) := by rw [hq9, va_up_ne _ _ (by omega)]; exact Y4
  have fr : ∀ j, j < n → j ≠ k0 → g9 j = g j := fun j h1 h2 => by rw [hq9, va_up_ne _ _ (by omega)]; try exact fr j h1 h2
  refine lv_aload_n hx hb dX3_init_41 rfl (lv_at hl 0 rfl) ?_
  refine lv_bipush (v := 10) hx hb dX3_init_42 (by decide) ?_
  refine lv_bipush (v := 64) hx hb dX3_init_44 (by decide) ?_
  refine cx_mna (c2 := cA 5) (cy := cA 1) (N := 10) (K := 64) hx hb hown (hgw _ w_46b88e66) (ao_use hN.2.2.2.2.2.2.2) (hgw _ w_f2af499d) (hK.2 1 _ rfl).2 (hK.2 5 _ rfl).2 hO (by decide) (by decide) rfl rfl (by decide) (by decide) (by decide) (Nat.le_of_ble_eq_true rfl) (Nat.le_of_ble_eq_true rfl) dX3_init_46 (fun H hO => ?_)
  obtain ⟨g10, hq10⟩ : ∃ x, x = mg g9 b (n + 4) (cA 5) (cA 1) 10 64 := ⟨_, rfl⟩
  rw [← hq10] at hO
  have hO : cxO D b (n + 15) g10 s H locs := hO
  have mfr : ∀ j, j < n + 4 → g10 j = g9 j := fun j hj => by rw [hq10]; unfold mg; rw [if_neg (by omega), if_neg (by omega)]
  have Y0 : g10 (k0) = .inr (3, [.ref (b + (n)), .ref (b + (n + 1)), .ref (b + (n + 2)), .ref (b + (n + 3)), .int 0, .null, .null, .null]) := by rw [mfr _ (by omega)]; exact Y0
  have Y1 : g10 (n) = .inl (cA 1, 64, .inr (.inl (fun _ => 0))) := by rw [mfr _ (by omega)]; exact Y1
  have Y2 : g10 (n + 1) = .inl (cA 1, 8, .inr (.inl (fun _ => 0))) := by rw [mfr _ (by omega)]; exact Y2
  have Y3 : g10 (n + 2) = .inl (cA 0, 40, .inl (fun _ => 0)) := by rw [mfr _ (by omega)]; exact Y3
  have Y4 : g10 (n + 3) = .inl (cA 1, 40, .inr (.inl (fun _ => 0))) := by rw [mfr _ (by omega)]; exact Y4
  have fr : ∀ j, j < n → j ≠ k0 → g10 j = g j := fun j h1 h2 => by rw [mfr _ (by omega)]; exact fr j h1 h2
  have Y2005 : g10 (n + 4) = .inl (cA 5, 10, .inr (.inr (.inr (.inr (fun i => if i < 10 then some (b + (n + 4) + 1 + i) else none))))) := by rw [hq10]; unfold mg; rw [if_pos rfl]
  have A10 : ∀ j, j < 10 → g10 (n + 5 + j) = .inl (cA 1, 64, .inr (.inl (fun _ => 0))) := fun j hj => by rw [hq10]; unfold mg; rw [if_neg (by omega), if_pos (by omega)]
  refine cx_putF (D := D) (cA := cA) (ci := 3) (v := .ref (b + (n + 4))) (ty := .array (.array .long)) (C := RX3) (T := TX3) (N := 8) hx hb hgw iwLedger tyX3 tyX3_ok nmX3 hown hK hO (q0 := k0) (by omega) Y0 rfl 5 (by decide) (hgw _ w_f0b03c9d) (fun _ h => h) rfl hin rfl (by decide +kernel) rfl rfl (Nat.le_of_ble_eq_true rfl) dX3_init_50 (fun H locs hO _ => ?_)
  have hO : cxO D b (n + 15) (va_up g10 k0 (.inr (3, [.ref (b + (n)), .ref (b + (n + 1)), .ref (b + (n + 2)), .ref (b + (n + 3)), .int 0, .ref (b + (n + 4)), .null, .null]))) s H locs := hO
  obtain ⟨g11, hq11⟩ : ∃ x, x = va_up g10 (k0) (.inr (3, [.ref (b + (n)), .ref (b + (n + 1)), .ref (b + (n + 2)), .ref (b + (n + 3)), .int 0, .ref (b + (n + 4)), .null, .null])) := ⟨_, rfl⟩
  rw [← hq11] at hO
  have Y0 : g11 (k0) = .inr (3, [.ref (b + (n)), .ref (b + (n + 1)), .ref (b + (n + 2)), .ref (b + (n + 3)), .int 0, .ref (b + (n + 4)), .null, .null]) := by rw [hq11]; exact va_up_self _ _ _
  have Y1 : g11 (n) = .inl (cA 1, 64, .inr (.inl (fun _ => 0))) := by rw [hq11, va_up_ne _ _ (by omega)]; exact Y1
  have Y2 : g11 (n + 1) = .inl (cA 1, 8, .inr (.inl (fun _ => 0))) := by rw [hq11, va_up_ne _ _ (by omega)]; exact Y2
  have Y3 : g11 (n + 2) = .inl (cA 0, 40, .inl (fun _ => 0)) := by rw [hq11, va_up_ne _ _ (by omega)]; exact Y3
  have Y4 : g11 (n + 3) = .inl (cA 1, 40, .inr (.inl (fun _ => 0))) := by rw [hq11, va_up_ne _ _ (by omega)]; exact Y4
  have Y2005 : g11 (n + 4) = .inl (cA 5, 10, .inr (.inr (.inr (.inr (fun i => if i < 10 then some (b + (n + 4) + 1 + i) else none))))) := by rw [hq11, va_up_ne _ _ (by omega)]; exact Y2005
  have A10 : ∀ j, j < 10 → g11 (n + 5 + j) = .inl (cA 1, 64, .inr (.inl (fun _ => 0))) := fun j hj => by rw [hq11, va_up_ne _ _ (by omega)]; exact A10 j hj
  have fr : ∀ j, j < n → j ≠ k0 → g11 j = g j := fun j h1 h2 => by rw [hq11, va_up_ne _ _ (by omega)]; try exact fr j h1 h2
  refine lv_aload_n hx hb dX3_init_53 rfl (lv_at hl 0 rfl) ?_
  refine lv_bipush (v := 10) hx hb dX3_init_54 (by decide) ?_
  refine lv_bipush (v := 8) hx hb dX3_init_56 (by decide) ?_
  refine cx_mna (c2 := cA 5) (cy := cA 1) (N := 10) (K := 8) hx hb hown (hgw _ w_46b88e66) (ao_use hN.2.2.2.2.2.2.2) (hgw _ w_f2af499d) (hK.2 1 _ rfl).2 (hK.2 5 _ rfl).2 hO (by decide) (by decide) rfl rfl (by decide) (by decide) (by decide) (Nat.le_of_ble_eq_true rfl) (Nat.le_of_ble_eq_true rfl) dX3_init_58 (fun H hO => ?_)
  obtain ⟨g12, hq12⟩ : ∃ x, x = mg g11 b (n + 15) (cA 5) (cA 1) 10 8 := ⟨_, rfl⟩
  rw [← hq12] at hO
  have hO : cxO D b (n + 26) g12 s H locs := hO
  have mfr : ∀ j, j < n + 15 → g12 j = g11 j := fun j hj => by rw [hq12]; unfold mg; rw [if_neg (by omega), if_neg (by omega)]
  have Y0 : g12 (k0) = .inr (3, [.ref (b + (n)), .ref (b + (n + 1)), .ref (b + (n + 2)), .ref (b + (n + 3)), .int 0, .ref (b + (n + 4)), .null, .null]) := by rw [mfr _ (by omega)]; exact Y0
  have Y1 : g12 (n) = .inl (cA 1, 64, .inr (.inl (fun _ => 0))) := by rw [mfr _ (by omega)]; exact Y1
  have Y2 : g12 (n + 1) = .inl (cA 1, 8, .inr (.inl (fun _ => 0))) := by rw [mfr _ (by omega)]; exact Y2
  have Y3 : g12 (n + 2) = .inl (cA 0, 40, .inl (fun _ => 0)) := by rw [mfr _ (by omega)]; exact Y3
  have Y4 : g12 (n + 3) = .inl (cA 1, 40, .inr (.inl (fun _ => 0))) := by rw [mfr _ (by omega)]; exact Y4
  have Y2005 : g12 (n + 4) = .inl (cA 5, 10, .inr (.inr (.inr (.inr (fun i => if i < 10 then some (b + (n + 4) + 1 + i) else none))))) := by rw [mfr _ (by omega)]; exact Y2005
  have A10 : ∀ j, j < 10 → g12 (n + 5 + j) = .inl (cA 1, 64, .inr (.inl (fun _ => 0))) := fun j hj => by rw [mfr _ (by omega)]; exact A10 j hj
  have fr : ∀ j, j < n → j ≠ k0 → g12 j = g j := fun j h1 h2 => by rw [mfr _ (by omega)]; exact fr j h1 h2
  have Y2406 : g12 (n + 15) = .inl (cA 5, 10, .inr (.inr (.inr (.inr (fun i => if i < 10 then some (b + (n + 15) + 1 + i) else none))))) := by rw [hq12]; unfold mg; rw [if_pos rfl]
  have A12 : ∀ j, j < 10 → g12 (n + 16 + j) = .inl (cA 1, 8, .inr (.inl (fun _ => 0))) := fun j hj => by rw [hq12]; unfold mg; rw [if_neg (by omega), if_pos (by omega)]
  refine cx_putF (D := D) (cA := cA) (ci := 3) (v := .ref (b + (n + 15))) (ty := .array (.array .long)) (C := RX3) (T := TX3) (N := 8) hx hb hgw iwLedger tyX3 tyX3_ok nmX3 hown hK hO (q0 := k0) (by omega) Y0 rfl 6 (by decide) (hgw _ w_ded8991e) (fun _ h => h) rfl hin rfl (by decide +kernel) rfl rfl (Nat.le_of_ble_eq_true rfl) dX3_init_62 (fun H locs hO _ => ?_)
  have hO : cxO D b (n + 26) (va_up g12 k0 (.inr (3, [.ref (b + (n)), .ref (b + (n + 1)), .ref (b + (n + 2)), .ref (b + (n + 3)), .int 0, .ref (b + (n + 4)), .ref (b + (n + 15)), .null]))) s H locs := hO
  obtain ⟨g13, hq13⟩ : ∃ x, x = va_up g12 (k0) (.inr (3, [.ref (b + (n)), .ref (b + (n + 1)), .ref (b + (n + 2)), .ref (b + (n + 3)), .int 0, .ref (b + (n + 4)), .ref (b + (n + 15)), .null])) := ⟨_, rfl⟩
  rw [← hq13] at hO
  have Y0 : g13 (k0) = .inr (3, [.ref (b + (n)), .ref (b + (n + 1)), .ref (b + (n + 2)), .ref (b + (n + 3)), .int 0, .ref (b + (n + 4)), .ref (b + (n + 15)), .null]) := by rw [hq13]; exact va_up_self _ _ _
  have Y1 : g13 (n) = .inl (cA 1, 64, .inr (.inl (fun _ => 0))) := by rw [hq13, va_up_ne _ _ (by omega)]; exact Y1
  have Y2 : g13 (n + 1) = .inl (cA 1, 8, .inr (.inl (fun _ => 0))) := by rw [hq13, va_up_ne _ _ (by omega)]; exact Y2
  have Y3 : g13 (n + 2) = .inl (cA 0, 40, .inl (fun _ => 0)) := by rw [hq13, va_up_ne _ _ (by omega)]; exact Y3
  have Y4 : g13 (n + 3) = .inl (cA 1, 40, .inr (.inl (fun _ => 0))) := by rw [hq13, va_up_ne _ _ (by omega)]; exact Y4
  have Y2005 : g13 (n + 4) = .inl (cA 5, 10, .inr (.inr (.inr (.inr (fun i => if i < 10 then some (b + (n + 4) + 1 + i) else none))))) := by rw [hq13, va_up_ne _ _ (by omega)]; exact Y2005
  have Y2406 : g13 (n + 15) = .inl (cA 5, 10, .inr (.inr (.inr (.inr (fun i => if i < 10 then some (b + (n + 15) + 1 + i) else none))))) := by rw [hq13, va_up_ne _ _ (by omega)]; exact Y2406
  have A10 : ∀ j, j < 10 → g13 (n + 5 + j) = .inl (cA 1, 64, .inr (.inl (fun _ => 0))) := fun j hj => by rw [hq13, va_up_ne _ _ (by omega)]; exact A10 j hj
  have A12 : ∀ j, j < 10 → g13 (n + 16 + j) = .inl (cA 1, 8, .inr (.inl (fun _ => 0))) := fun j hj => by rw [hq13, va_up_ne _ _ (by omega)]; exact A12 j hj
  have fr : ∀ j, j < n → j ≠ k0 → g13 j = g j := fun j h1 h2 => by rw [hq13, va_up_ne _ _ (by omega)]; try exact fr j h1 h2
  refine lv_aload_n hx hb dX3_init_65 rfl (lv_at hl 0 rfl) ?_
  refine lv_bipush (v := 10) hx hb dX3_init_66 (by decide) ?_
  refine cx_newa (atype := .int) (cy := cA 0) (a0 := (10, .inl (fun _ => 0))) hx hb (hgw _ w_d160d5ac) (hK.2 0 _ rfl).2 hO (fun _ => rfl) (by decide) rfl (by decide) (Nat.le_of_ble_eq_true rfl) (Nat.le_of_ble_eq_true rfl) dX3_init_68 (fun H hO => ?_)
  obtain ⟨g14, hq14⟩ : ∃ x, x = va_up g13 (n + 26) (.inl (cA 0, 10, .inl (fun _ => 0))) := ⟨_, rfl⟩
  rw [← hq14] at hO
  have Y7 : g14 (n + 26) = .inl (cA 0, 10, .inl (fun _ => 0)) := by rw [hq14]; exact va_up_self _ _ _
  have Y0 : g14 (k0) = .inr (3, [.ref (b + (n)), .ref (b + (n + 1)), .ref (b + (n + 2)), .ref (b + (n + 3)), .int 0, .ref (b + (n + 4)), .ref (b + (n + 15)), .null]) := by rw [hq14, va_up_ne _ _ (by omega)]; exact Y0
  have Y1 : g14 (n) = .inl (cA 1, 64, .inr (.inl (fun _ => 0))) := by rw [hq14, va_up_ne _ _ (by omega)]; exact Y1
  have Y2 : g14 (n + 1) = .inl (cA 1, 8, .inr (.inl (fun _ => 0))) := by rw [hq14, va_up_ne _ _ (by omega)]; exact Y2
  have Y3 : g14 (n + 2) = .inl (cA 0, 40, .inl (fun _ => 0)) := by rw [hq14, va_up_ne _ _ (by omega)]; exact Y3
  have Y4 : g14 (n + 3) = .inl (cA 1, 40, .inr (.inl (fun _ => 0))) := by rw [hq14, va_up_ne _ _ (by omega)]; exact Y4
  have Y2005 : g14 (n + 4) = .inl (cA 5, 10, .inr (.inr (.inr (.inr (fun i => if i < 10 then some (b + (n + 4) + 1 + i) else none))))) := by rw [hq14, va_up_ne _ _ (by omega)]; exact Y2005
  have Y2406 : g14 (n + 15) = .inl (cA 5, 10, .inr (.inr (.inr (.inr (fun i => if i < 10 then some (b + (n + 15) + 1 + i) else none))))) := by rw [hq14, va_up_ne _ _ (by omega)]; exact Y2406
  have A10 : ∀ j, j < 10 → g14 (n + 5 + j) = .inl (cA 1, 64, .inr (.inl (fun _ => 0))) := fun j hj => by rw [hq14, va_up_ne _ _ (by omega)]; exact A10 j hj
  have A12 : ∀ j, j < 10 → g14 (n + 16 + j) = .inl (cA 1, 8, .inr (.inl (fun _ => 0))) := fun j hj => by rw [hq14, va_up_ne _ _ (by omega)]; exact A12 j hj
  have fr : ∀ j, j < n → j ≠ k0 → g14 j = g j := fun j h1 h2 => by rw [hq14, va_up_ne _ _ (by omega)]; try exact fr j h1 h2
  refine cx_putF (D := D) (cA := cA) (ci := 3) (v := .ref (b + (n + 26))) (ty := .array .int) (C := RX3) (T := TX3) (N := 8) hx hb hgw iwLedger tyX3 tyX3_ok nmX3 hown hK hO (q0 := k0) (by omega) Y0 rfl 7 (by decide) (hgw _ w_81616191) (fun _ h => h) rfl hin rfl (by decide +kernel) rfl rfl (Nat.le_of_ble_eq_true rfl) dX3_init_70 (fun H locs hO _ => ?_)
  have hO : cxO D b (n + 27) (va_up g14 k0 (.inr (3, [.ref (b + (n)), .ref (b + (n + 1)), .ref (b + (n + 2)), .ref (b + (n + 3)), .int 0, .ref (b + (n + 4)), .ref (b + (n + 15)), .ref (b + (n + 26))]))) s H locs := hO
  obtain ⟨g15, hq15⟩ : ∃ x, x = va_up g14 (k0) (.inr (3, [.ref (b + (n)), .ref (b + (n + 1)), .ref (b + (n + 2)), .ref (b + (n + 3)), .int 0, .ref (b + (n + 4)), .ref (b + (n + 15)), .ref (b + (n + 26))])) := ⟨_, rfl⟩
  rw [← hq15] at hO
  have Y0 : g15 (k0) = .inr (3, [.ref (b + (n)), .ref (b + (n + 1)), .ref (b + (n + 2)), .ref (b + (n + 3)), .int 0, .ref (b + (n + 4)), .ref (b + (n + 15)), .ref (b + (n + 26))]) := by rw [hq15]; exact va_up_self _ _ _
  have Y1 : g15 (n) = .inl (cA 1, 64, .inr (.inl (fun _ => 0))) := by rw [hq15, va_up_ne _ _ (by omega)]; exact Y1
  have Y2 : g15 (n + 1) = .inl (cA 1, 8, .inr (.inl (fun _ => 0))) := by rw [hq15, va_up_ne _ _ (by omega)]; exact Y2
  have Y3 : g15 (n + 2) = .inl (cA 0, 40, .inl (fun _ => 0)) := by rw [hq15, va_up_ne _ _ (by omega)]; exact Y3
  have Y4 : g15 (n + 3) = .inl (cA 1, 40, .inr (.inl (fun _ => 0))) := by rw [hq15, va_up_ne _ _ (by omega)]; exact Y4
  have Y2005 : g15 (n + 4) = .inl (cA 5, 10, .inr (.inr (.inr (.inr (fun i => if i < 10 then some (b + (n + 4) + 1 + i) else none))))) := by rw [hq15, va_up_ne _ _ (by omega)]; exact Y2005
  have Y2406 : g15 (n + 15) = .inl (cA 5, 10, .inr (.inr (.inr (.inr (fun i => if i < 10 then some (b + (n + 15) + 1 + i) else none))))) := by rw [hq15, va_up_ne _ _ (by omega)]; exact Y2406
  have Y7 : g15 (n + 26) = .inl (cA 0, 10, .inl (fun _ => 0)) := by rw [hq15, va_up_ne _ _ (by omega)]; exact Y7
  have A10 : ∀ j, j < 10 → g15 (n + 5 + j) = .inl (cA 1, 64, .inr (.inl (fun _ => 0))) := fun j hj => by rw [hq15, va_up_ne _ _ (by omega)]; exact A10 j hj
  have A12 : ∀ j, j < 10 → g15 (n + 16 + j) = .inl (cA 1, 8, .inr (.inl (fun _ => 0))) := fun j hj => by rw [hq15, va_up_ne _ _ (by omega)]; exact A12 j hj
  have fr : ∀ j, j < n → j ≠ k0 → g15 j = g j := fun j h1 h2 => by rw [hq15, va_up_ne _ _ (by omega)]; try exact fr j h1 h2
  exact cx_vret hx hb hr hlocks hO ⟨Y0, Y1, Y2, Y3, Y4, Y2005, Y2406, Y7, A10, A12, fr⟩ dX3_init_73
