set_option maxHeartbeats 4000000 in
set_option maxRecDepth 100000 in
theorem cx_Beh_init (l : Launch) (D : va_G) (cA : Nat → ClassId) (b n k0 : Nat) (hk0 : k0 < n) (g : Nat → va_E) (Y0 : g k0 = .inr (0, [.null, .null, .int 0])) : Met l yX0_init (wv yX0_init cX0_init 1 none) ({ frames := 1, cells := 2, slots := 48, locals := 12 }) (va_Pc [.ref (b + k0)] (cxU D cA b n g)) (cxQ D b (n + 2) (fun g2 => g2 (k0) = .inr (0, [.ref (b + (n)), .ref (b + (n + 1)), .int 0]) ∧ g2 (n) = .inl (cA 0, 24, .inl (fun _ => 0)) ∧ g2 (n + 1) = .inl (cA 0, 24, .inl (fun _ => 0)) ∧ ∀ j, j < n → j ≠ k0 → g2 j = g j)) 2 48 (cxA b) := by
  refine Met.ofW (cc := cX0_init) (maxL := 1) (ret := none) (by decide) rfl ?_
  intro p e s m args below meth c s₁ B hml hv
  obtain ⟨rfl, hP, hz, hK, hN⟩ := hv
  have hx := B.exec
  have hb := B.bytes
  have hr := B.returns
  have hts := atoms_spec (ws := wv yX0_init cX0_init 1 none) B.pre
  have hown : s.vm.findClass RX0 = some m.cls := findClass_of_methodNamed B.named
  have hlocks := B.notSynchronized
  have hin : meth.name = "<init>" := (name_of_methodNamed B.named B.method).1
  have hO : cxO D b n g s s.heap [] := ⟨hP, va_S.rf, hz⟩
  have hl := lv_entry ([.ref (b + k0)]) (n := 1) (Nat.le_of_ble_eq_true rfl)
  rw [lg_entry_eq]
  generalize (lg_sl ([.ref (b + k0)]) ++ List.replicate (1 - (lg_sl ([.ref (b + k0)])).length) Slot.unset).toArray = ls at hl ⊢
  have hl : lv_has ls 1 [(0, .ref (b + k0))] := hl
  have hgw := fun (w : Cond) (h : w ∈ gwW) => hts w (List.mem_cons_of_mem _ h)
  have fr : ∀ j, j < n → j ≠ k0 → g j = g j := fun _ _ _ => rfl
  refine lv_aload_n hx hb dX0_init_0 rfl (lv_at hl 0 rfl) ?_
  refine W.objInit hx hb hown (hgw _ w_86c09446) (hgw _ w_fba9d542) (hgw _ w_9febdb7e) rfl (by rw [hml]; exact hl.1) rfl dX0_init_1 (Nat.le_of_ble_eq_true rfl) (Nat.le_of_ble_eq_true rfl) ?_
  refine W.eq (g2 := F0 m 4 ls []) rfl ?_
  refine lv_aload_n hx hb dX0_init_4 rfl (lv_at hl 0 rfl) ?_
  refine lv_bipush (v := 24) hx hb dX0_init_5 (by decide) ?_
  refine cx_newa (atype := .int) (cy := cA 0) (a0 := (24, .inl (fun _ => 0))) hx hb (hgw _ w_d160d5ac) (hK.2 0 _ rfl).2 hO (fun _ => rfl) (by decide) rfl (by decide) (Nat.le_of_ble_eq_true rfl) (Nat.le_of_ble_eq_true rfl) dX0_init_7 (fun H hO => ?_)
  obtain ⟨g1, hq1⟩ : ∃ x, x = va_up g (n) (.inl (cA 0, 24, .inl (fun _ => 0))) := ⟨_, rfl⟩
  rw [← hq1] at hO
  have Y1 : g1 (n) = .inl (cA 0, 24, .inl (fun _ => 0)) := by rw [hq1]; exact va_up_self _ _ _
  have Y0 : g1 (k0) = .inr (0, [.null, .null, .int 0]) := by rw [hq1, va_up_ne _ _ (by omega)]; exact Y0
  have fr : ∀ j, j < n → j ≠ k0 → g1 j = g j := fun j h1 h2 => by rw [hq1, va_up_ne _ _ (by omega)]; try exact fr j h1 h2
  refine cx_putF (D := D) (cA := cA) (ci := 0) (v := .ref (b + (n))) (ty := .array .int) (C := RX0) (T := TX0) (N := 3) hx hb hgw iwBeh tyX0 tyX0_ok nmX0 hown hK hO (q0 := k0) (by omega) Y0 rfl 0 (by decide) (hgw _ w_92e4e692) (fun _ h => h) rfl hin rfl (by decide +kernel) rfl rfl (Nat.le_of_ble_eq_true rfl) dX0_init_9 (fun H locs hO _ => ?_)
  have hO : cxO D b (n + 1) (va_up g1 k0 (.inr (0, [.ref (b + (n)), .null, .int 0]))) s H locs := hO
  obtain ⟨g2, hq2⟩ : ∃ x, x = va_up g1 (k0) (.inr (0, [.ref (b + (n)), .null, .int 0])) := ⟨_, rfl⟩
  rw [← hq2] at hO
  have Y0 : g2 (k0) = .inr (0, [.ref (b + (n)), .null, .int 0]) := by rw [hq2]; exact va_up_self _ _ _
  have Y1 : g2 (n) = .inl (cA 0, 24, .inl (fun _ => 0)) := by rw [hq2, va_up_ne _ _ (by omega)]; exact Y1
  have fr : ∀ j, j < n → j ≠ k0 → g2 j = g j := fun j h1 h2 => by rw [hq2, va_up_ne _ _ (by omega)]; try exact fr j h1 h2
  refine lv_aload_n hx hb dX0_init_12 rfl (lv_at hl 0 rfl) ?_
  refine lv_bipush (v := 24) hx hb dX0_init_13 (by decide) ?_
  refine cx_newa (atype := .int) (cy := cA 0) (a0 := (24, .inl (fun _ => 0))) hx hb (hgw _ w_d160d5ac) (hK.2 0 _ rfl).2 hO (fun _ => rfl) (by decide) rfl (by decide) (Nat.le_of_ble_eq_true rfl) (Nat.le_of_ble_eq_true rfl) dX0_init_15 (fun H hO => ?_)
  obtain ⟨g3, hq3⟩ : ∃ x, x = va_up g2 (n + 1) (.inl (cA 0, 24, .inl (fun _ => 0))) := ⟨_, rfl⟩
  rw [← hq3] at hO
  have Y2 : g3 (n + 1) = .inl (cA 0, 24, .inl (fun _ => 0)) := by rw [hq3]; exact va_up_self _ _ _
  have Y0 : g3 (k0) = .inr (0, [.ref (b + (n)), .null, .int 0]) := by rw [hq3, va_up_ne _ _ (by omega)]; exact Y0
  have Y1 : g3 (n) = .inl (cA 0, 24, .inl (fun _ => 0)) := by rw [hq3, va_up_ne _ _ (by omega)]; exact Y1
  have fr : ∀ j, j < n → j ≠ k0 → g3 j = g j := fun j h1 h2 => by rw [hq3, va_up_ne _ _ (by omega)]; try exact fr j h1 h2
  refine cx_putF (D := D) (cA := cA) (ci := 0) (v := .ref (b + (n + 1))) (ty := .array .int) (C := RX0) (T := TX0) (N := 3) hx hb hgw iwBeh tyX0 tyX0_ok nmX0 hown hK hO (q0 := k0) (by omega) Y0 rfl 1 (by decide) (hgw _ w_3596c244) (fun _ h => h) rfl hin rfl (by decide +kernel) rfl rfl (Nat.le_of_ble_eq_true rfl) dX0_init_17 (fun H locs hO _ => ?_)
  have hO : cxO D b (n + 2) (va_up g3 k0 (.inr (0, [.ref (b + (n)), .ref (b + (n + 1)), .int 0]))) s H locs := hO
  obtain ⟨g4, hq4⟩ : ∃ x, x = va_up g3 (k0) (.inr (0, [.ref (b + (n)), .ref (b + (n + 1)), .int 0])) := ⟨_, rfl⟩
  rw [← hq4] at hO
  have Y0 : g4 (k0) = .inr (0, [.ref (b + (n)), .ref (b + (n + 1)), .int 0]) := by rw [hq4]; exact va_up_self _ _ _
  have Y1 : g4 (n) = .inl (cA 0, 24, .inl (fun _ => 0)) := by rw [hq4, va_up_ne _ _ (by omega)]; exact Y1
  have Y2 : g4 (n + 1) = .inl (cA 0, 24, .inl (fun _ => 0)) := by rw [hq4, va_up_ne _ _ (by omega)]; exact Y2
  have fr : ∀ j, j < n → j ≠ k0 → g4 j = g j := fun j h1 h2 => by rw [hq4, va_up_ne _ _ (by omega)]; try exact fr j h1 h2
  refine lv_aload_n hx hb dX0_init_20 rfl (lv_at hl 0 rfl) ?_
  refine lv_iconst (v := 0) hx hb dX0_init_21 (by decide) ?_
  refine cx_put (D := D) (cA := cA) (ci := 0) (v := .int 0) (ty := .int) (C := RX0) (T := TX0) (N := 3) hx hb hgw iwBeh tyX0 tyX0_ok nmX0 hown hK hO (q0 := k0) (by omega) Y0 rfl 2 (by decide) (hgw _ w_ac02c5f5) (fun _ h => h) rfl (by decide +kernel) rfl rfl (Nat.le_of_ble_eq_true rfl) dX0_init_22 (fun H locs hO _ => ?_)
  have hO : cxO D b (n + 2) (va_up g4 k0 (.inr (0, [.ref (b + (n)), .ref (b + (n + 1)), .int 0]))) s H locs := hO
  obtain ⟨g5, hq5⟩ : ∃ x, x = va_up g4 (k0) (.inr (0, [.ref (b + (n)), .ref (b + (n + 1)), .int 0])) := ⟨_, rfl⟩
  rw [← hq5] at hO
  have Y0 : g5 (k0) = .inr (0, [.ref (b + (n)), .ref (b + (n + 1)), .int 0]) := by rw [hq5]; exact va_up_self _ _ _
  have Y1 : g5 (n) = .inl (cA 0, 24, .inl (fun _ => 0)) := by rw [hq5, va_up_ne _ _ (by omega)]; exact Y1
  have Y2 : g5 (n + 1) = .inl (cA 0, 24, .inl (fun _ => 0)) := by rw [hq5, va_up_ne _ _ (by omega)]; exact Y2
  have fr : ∀ j, j < n → j ≠ k0 → g5 j = g j := fun j h1 h2 => by rw [hq5, va_up_ne _ _ (by omega)]; try exact fr j h1 h2
  exact cx_vret hx hb hr hlocks hO ⟨Y0, Y1, Y2, fr⟩ dX0_init_25
set_option maxHeartbeats 4000000 in
set_option maxRecDepth 100000 in
theorem cx_Pile_init (l : Launch) (D : va_G) (cA : Nat → ClassId) (b n k0 : Nat) (hk0 : k0 < n) (g : Nat → va_E) (Y0 : g k0 = .inr (4, [.null, .null, .int 0, .int 0])) : Met l yX4_init (wv yX4_init cX4_init 1 none) ({ frames := 1, cells := 2, slots := 24, locals := 12 }) (va_Pc [.ref (b + k0)] (cxU D cA b n g)) (cxQ D b (n + 2) (fun g2 => g2 (k0) = .inr (4, [.ref (b + (n)), .ref (b + (n + 1)), .int 0, .int 0]) ∧ g2 (n) = .inl (cA 0, 12, .inl (fun _ => 0)) ∧ g2 (n + 1) = .inl (cA 1, 12, .inr (.inl (fun _ => 0))) ∧ ∀ j, j < n → j ≠ k0 → g2 j = g j)) 2 24 (cxA b) := by
  refine Met.ofW (cc := cX4_init) (maxL := 1) (ret := none) (by decide) rfl ?_
  intro p e s m args below meth c s₁ B hml hv
  obtain ⟨rfl, hP, hz, hK, hN⟩ := hv
  have hx := B.exec
  have hb := B.bytes
  have hr := B.returns
  have hts := atoms_spec (ws := wv yX4_init cX4_init 1 none) B.pre
  have hown : s.vm.findClass RX4 = some m.cls := findClass_of_methodNamed B.named
  have hlocks := B.notSynchronized
  have hin : meth.name = "<init>" := (name_of_methodNamed B.named B.method).1
  have hO : cxO D b n g s s.heap [] := ⟨hP, va_S.rf, hz⟩
  have hl := lv_entry ([.ref (b + k0)]) (n := 1) (Nat.le_of_ble_eq_true rfl)
  rw [lg_entry_eq]
  generalize (lg_sl ([.ref (b + k0)]) ++ List.replicate (1 - (lg_sl ([.ref (b + k0)])).length) Slot.unset).toArray = ls at hl ⊢
  have hl : lv_has ls 1 [(0, .ref (b + k0))] := hl
  have hgw := fun (w : Cond) (h : w ∈ gwW) => hts w (List.mem_cons_of_mem _ h)
  have fr : ∀ j, j < n → j ≠ k0 → g j = g j := fun _ _ _ => rfl
  refine lv_aload_n hx hb dX4_init_0 rfl (lv_at hl 0 rfl) ?_
  refine W.objInit hx hb hown (hgw _ w_9612431b) (hgw _ w_fba9d542) (hgw _ w_9febdb7e) rfl (by rw [hml]; exact hl.1) rfl dX4_init_1 (Nat.le_of_ble_eq_true rfl) (Nat.le_of_ble_eq_true rfl) ?_
  refine W.eq (g2 := F0 m 4 ls []) rfl ?_
  refine lv_aload_n hx hb dX4_init_4 rfl (lv_at hl 0 rfl) ?_
  refine lv_bipush (v := 12) hx hb dX4_init_5 (by decide) ?_
  refine cx_newa (atype := .int) (cy := cA 0) (a0 := (12, .inl (fun _ => 0))) hx hb (hgw _ w_d160d5ac) (hK.2 0 _ rfl).2 hO (fun _ => rfl) (by decide) rfl (by decide) (Nat.le_of_ble_eq_true rfl) (Nat.le_of_ble_eq_true rfl) dX4_init_7 (fun H hO => ?_)
  obtain ⟨g1, hq1⟩ : ∃ x, x = va_up g (n) (.inl (cA 0, 12, .inl (fun _ => 0))) := ⟨_, rfl⟩
  rw [← hq1] at hO
  have Y1 : g1 (n) = .inl (cA 0, 12, .inl (fun _ => 0)) := by rw [hq1]; exact va_up_self _ _ _
  have Y0 : g1 (k0) = .inr (4, [.null, .null, .int 0, .int 0]) := by rw [hq1, va_up_ne _ _ (by omega)]; exact Y0
  have fr : ∀ j, j < n → j ≠ k0 → g1 j = g j := fun j h1 h2 => by rw [hq1, va_up_ne _ _ (by omega)]; try exact fr j h1 h2
  refine cx_putF (D := D) (cA := cA) (ci := 4) (v := .ref (b + (n))) (ty := .array .int) (C := RX4) (T := TX4) (N := 4) hx hb hgw iwPile tyX4 tyX4_ok nmX4 hown hK hO (q0 := k0) (by omega) Y0 rfl 0 (by decide) (hgw _ w_89a9db98) (fun _ h => h) rfl hin rfl (by decide +kernel) rfl rfl (Nat.le_of_ble_eq_true rfl) dX4_init_9 (fun H locs hO _ => ?_)
  have hO : cxO D b (n + 1) (va_up g1 k0 (.inr (4, [.ref (b + (n)), .null, .int 0, .int 0]))) s H locs := hO
  obtain ⟨g2, hq2⟩ : ∃ x, x = va_up g1 (k0) (.inr (4, [.ref (b + (n)), .null, .int 0, .int 0])) := ⟨_, rfl⟩
  rw [← hq2] at hO
  have Y0 : g2 (k0) = .inr (4, [.ref (b + (n)), .null, .int 0, .int 0]) := by rw [hq2]; exact va_up_self _ _ _
  have Y1 : g2 (n) = .inl (cA 0, 12, .inl (fun _ => 0)) := by rw [hq2, va_up_ne _ _ (by omega)]; exact Y1
  have fr : ∀ j, j < n → j ≠ k0 → g2 j = g j := fun j h1 h2 => by rw [hq2, va_up_ne _ _ (by omega)]; try exact fr j h1 h2
  refine lv_aload_n hx hb dX4_init_12 rfl (lv_at hl 0 rfl) ?_
  refine lv_bipush (v := 12) hx hb dX4_init_13 (by decide) ?_
  refine cx_newa (atype := .long) (cy := cA 1) (a0 := (12, .inr (.inl (fun _ => 0)))) hx hb (hgw _ w_f2af499d) (hK.2 1 _ rfl).2 hO (fun _ => rfl) (by decide) rfl (by decide) (Nat.le_of_ble_eq_true rfl) (Nat.le_of_ble_eq_true rfl) dX4_init_15 (fun H hO => ?_)
  obtain ⟨g3, hq3⟩ : ∃ x, x = va_up g2 (n + 1) (.inl (cA 1, 12, .inr (.inl (fun _ => 0)))) := ⟨_, rfl⟩
  rw [← hq3] at hO
  have Y2 : g3 (n + 1) = .inl (cA 1, 12, .inr (.inl (fun _ => 0))) := by rw [hq3]; exact va_up_self _ _ _
  have Y0 : g3 (k0) = .inr (4, [.ref (b + (n)), .null, .int 0, .int 0]) := by rw [hq3, va_up_ne _ _ (by omega)]; exact Y0
  have Y1 : g3 (n) = .inl (cA 0, 12, .inl (fun _ => 0)) := by rw [hq3, va_up_ne _ _ (by omega)]; exact Y1
  have fr : ∀ j, j < n → j ≠ k0 → g3 j = g j := fun j h1 h2 => by rw [hq3, va_up_ne _ _ (by omega)]; try exact fr j h1 h2
  refine cx_putF (D := D) (cA := cA) (ci := 4) (v := .ref (b + (n + 1))) (ty := .array .long) (C := RX4) (T := TX4) (N := 4) hx hb hgw iwPile tyX4 tyX4_ok nmX4 hown hK hO (q0 := k0) (by omega) Y0 rfl 1 (by decide) (hgw _ w_c5b43c70) (fun _ h => h) rfl hin rfl (by decide +kernel) rfl rfl (Nat.le_of_ble_eq_true rfl) dX4_init_17 (fun H locs hO _ => ?_)
  have hO : cxO D b (n + 2) (va_up g3 k0 (.inr (4, [.ref (b + (n)), .ref (b + (n + 1)), .int 0, .int 0]))) s H locs := hO
  obtain ⟨g4, hq4⟩ : ∃ x, x = va_up g3 (k0) (.inr (4, [.ref (b + (n)), .ref (b + (n + 1)), .int 0, .int 0])) := ⟨_, rfl⟩
  rw [← hq4] at hO
  have Y0 : g4 (k0) = .inr (4, [.ref (b + (n)), .ref (b + (n + 1)), .int 0, .int 0]) := by rw [hq4]; exact va_up_self _ _ _
  have Y1 : g4 (n) = .inl (cA 0, 12, .inl (fun _ => 0)) := by rw [hq4, va_up_ne _ _ (by omega)]; exact Y1
  have Y2 : g4 (n + 1) = .inl (cA 1, 12, .inr (.inl (fun _ => 0))) := by rw [hq4, va_up_ne _ _ (by omega)]; exact Y2
  have fr : ∀ j, j < n → j ≠ k0 → g4 j = g j := fun j h1 h2 => by rw [hq4, va_up_ne _ _ (by omega)]; try exact fr j h1 h2
  refine lv_aload_n hx hb dX4_init_20 rfl (lv_at hl 0 rfl) ?_
  refine lv_iconst (v := 0) hx hb dX4_init_21 (by decide) ?_
  refine cx_put (D := D) (cA := cA) (ci := 4) (v := .int 0) (ty := .int) (C := RX4) (T := TX4) (N := 4) hx hb hgw iwPile tyX4 tyX4_ok nmX4 hown hK hO (q0 := k0) (by omega) Y0 rfl 2 (by decide) (hgw _ w_311ac5d4) (fun _ h => h) rfl (by decide +kernel) rfl rfl (Nat.le_of_ble_eq_true rfl) dX4_init_22 (fun H locs hO _ => ?_)
  have hO : cxO D b (n + 2) (va_up g4 k0 (.inr (4, [.ref (b + (n)), .ref (b + (n + 1)), .int 0, .int 0]))) s H locs := hO
  obtain ⟨g5, hq5⟩ : ∃ x, x = va_up g4 (k0) (.inr (4, [.ref (b + (n)), .ref (b + (n + 1)), .int 0, .int 0])) := ⟨_, rfl⟩
  rw [← hq5] at hO
  have Y0 : g5 (k0) = .inr (4, [.ref (b + (n)), .ref (b + (n + 1)), .int 0, .int 0]) := by rw [hq5]; exact va_up_self _ _ _
  have Y1 : g5 (n) = .inl (cA 0, 12, .inl (fun _ => 0)) := by rw [hq5, va_up_ne _ _ (by omega)]; exact Y1
  have Y2 : g5 (n + 1) = .inl (cA 1, 12, .inr (.inl (fun _ => 0))) := by rw [hq5, va_up_ne _ _ (by omega)]; exact Y2
  have fr : ∀ j, j < n → j ≠ k0 → g5 j = g j := fun j h1 h2 => by rw [hq5, va_up_ne _ _ (by omega)]; try exact fr j h1 h2
  refine lv_aload_n hx hb dX4_init_25 rfl (lv_at hl 0 rfl) ?_
  refine lv_iconst (v := 0) hx hb dX4_init_26 (by decide) ?_
  refine cx_put (D := D) (cA := cA) (ci := 4) (v := .int 0) (ty := .int) (C := RX4) (T := TX4) (N := 4) hx hb hgw iwPile tyX4 tyX4_ok nmX4 hown hK hO (q0 := k0) (by omega) Y0 rfl 3 (by decide) (hgw _ w_c51cb73e) (fun _ h => h) rfl (by decide +kernel) rfl rfl (Nat.le_of_ble_eq_true rfl) dX4_init_27 (fun H locs hO _ => ?_)
  have hO : cxO D b (n + 2) (va_up g5 k0 (.inr (4, [.ref (b + (n)), .ref (b + (n + 1)), .int 0, .int 0]))) s H locs := hO
  obtain ⟨g6, hq6⟩ : ∃ x, x = va_up g5 (k0) (.inr (4, [.ref (b + (n)), .ref (b + (n + 1)), .int 0, .int 0])) := ⟨_, rfl⟩
  rw [← hq6] at hO
  have Y0 : g6 (k0) = .inr (4, [.ref (b + (n)), .ref (b + (n + 1)), .int 0, .int 0]) := by rw [hq6]; exact va_up_self _ _ _
  have Y1 : g6 (n) = .inl (cA 0, 12, .inl (fun _ => 0)) := by rw [hq6, va_up_ne _ _ (by omega)]; exact Y1
  have Y2 : g6 (n + 1) = .inl (cA 1, 12, .inr (.inl (fun _ => 0))) := by rw [hq6, va_up_ne _ _ (by omega)]; exact Y2
  have fr : ∀ j, j < n → j ≠ k0 → g6 j = g j := fun j h1 h2 => by rw [hq6, va_up_ne _ _ (by omega)]; try exact fr j h1 h2
  exact cx_vret hx hb hr hlocks hO ⟨Y0, Y1, Y2, fr⟩ dX4_init_30
set_option maxHeartbeats 4000000 in
set_option maxRecDepth 100000 in
theorem cx_Rows_init (l : Launch) (D : va_G) (cA : Nat → ClassId) (b n k0 : Nat) (hk0 : k0 < n) (g : Nat → va_E) (Y0 : g k0 = .inr (5, [.null, .null, .null])) (p1 : Nat) (hp1 : p1 < n) : Met l yX5_init (wv yX5_init cX5_init 2 none) ({ frames := 1, cells := 2, slots := 204, locals := 12 }) (va_Pc [.ref (b + k0), .ref (b + p1)] (cxU D cA b n g)) (cxQ D b (n + 2) (fun g2 => g2 (k0) = .inr (5, [.ref (b + p1), .ref (b + (n)), .ref (b + (n + 1))]) ∧ g2 (n) = .inl (cA 1, 192, .inr (.inl (fun _ => 0))) ∧ g2 (n + 1) = .inl (cA 0, 12, .inl (fun _ => 0)) ∧ ∀ j, j < n → j ≠ k0 → g2 j = g j)) 2 204 (cxA b) := by
  refine Met.ofW (cc := cX5_init) (maxL := 2) (ret := none) (by decide) rfl ?_
  intro p e s m args below meth c s₁ B hml hv
  obtain ⟨rfl, hP, hz, hK, hN⟩ := hv
  have hx := B.exec
  have hb := B.bytes
  have hr := B.returns
  have hts := atoms_spec (ws := wv yX5_init cX5_init 2 none) B.pre
  have hown : s.vm.findClass RX5 = some m.cls := findClass_of_methodNamed B.named
  have hlocks := B.notSynchronized
  have hin : meth.name = "<init>" := (name_of_methodNamed B.named B.method).1
  have hO : cxO D b n g s s.heap [] := ⟨hP, va_S.rf, hz⟩
  have hl := lv_entry ([.ref (b + k0), .ref (b + p1)]) (n := 2) (Nat.le_of_ble_eq_true rfl)
  rw [lg_entry_eq]
  generalize (lg_sl ([.ref (b + k0), .ref (b + p1)]) ++ List.replicate (2 - (lg_sl ([.ref (b + k0), .ref (b + p1)])).length) Slot.unset).toArray = ls at hl ⊢
  have hl : lv_has ls 2 [(0, .ref (b + k0)), (1, .ref (b + p1))] := hl
  have hgw := fun (w : Cond) (h : w ∈ gwW) => hts w (List.mem_cons_of_mem _ h)
  have fr : ∀ j, j < n → j ≠ k0 → g j = g j := fun _ _ _ => rfl
  refine lv_aload_n hx hb dX5_init_0 rfl (lv_at hl 0 rfl) ?_
  refine W.objInit hx hb hown (hgw _ w_02a47902) (hgw _ w_fba9d542) (hgw _ w_9febdb7e) rfl (by rw [hml]; exact hl.1) rfl dX5_init_1 (Nat.le_of_ble_eq_true rfl) (Nat.le_of_ble_eq_true rfl) ?_
  refine W.eq (g2 := F0 m 4 ls []) rfl ?_
  refine lv_aload_n hx hb dX5_init_4 rfl (lv_at hl 0 rfl) ?_
  refine lv_sipush (v := 192) hx hb dX5_init_5 (by decide) ?_
  refine cx_newa (atype := .long) (cy := cA 1) (a0 := (192, .inr (.inl (fun _ => 0)))) hx hb (hgw _ w_f2af499d) (hK.2 1 _ rfl).2 hO (fun _ => rfl) (by decide) rfl (by decide) (Nat.le_of_ble_eq_true rfl) (Nat.le_of_ble_eq_true rfl) dX5_init_8 (fun H hO => ?_)
  obtain ⟨g1, hq1⟩ : ∃ x, x = va_up g (n) (.inl (cA 1, 192, .inr (.inl (fun _ => 0)))) := ⟨_, rfl⟩
  rw [← hq1] at hO
  have Y1 : g1 (n) = .inl (cA 1, 192, .inr (.inl (fun _ => 0))) := by rw [hq1]; exact va_up_self _ _ _
  have Y0 : g1 (k0) = .inr (5, [.null, .null, .null]) := by rw [hq1, va_up_ne _ _ (by omega)]; exact Y0
  have fr : ∀ j, j < n → j ≠ k0 → g1 j = g j := fun j h1 h2 => by rw [hq1, va_up_ne _ _ (by omega)]; try exact fr j h1 h2
  refine cx_putF (D := D) (cA := cA) (ci := 5) (v := .ref (b + (n))) (ty := .array .long) (C := RX5) (T := TX5) (N := 3) hx hb hgw iwRows tyX5 tyX5_ok nmX5 hown hK hO (q0 := k0) (by omega) Y0 rfl 1 (by decide) (hgw _ w_44bf1df9) (fun _ h => h) rfl hin rfl (by decide +kernel) rfl rfl (Nat.le_of_ble_eq_true rfl) dX5_init_10 (fun H locs hO _ => ?_)
  have hO : cxO D b (n + 1) (va_up g1 k0 (.inr (5, [.null, .ref (b + (n)), .null]))) s H locs := hO
  obtain ⟨g2, hq2⟩ : ∃ x, x = va_up g1 (k0) (.inr (5, [.null, .ref (b + (n)), .null])) := ⟨_, rfl⟩
  rw [← hq2] at hO
  have Y0 : g2 (k0) = .inr (5, [.null, .ref (b + (n)), .null]) := by rw [hq2]; exact va_up_self _ _ _
  have Y1 : g2 (n) = .inl (cA 1, 192, .inr (.inl (fun _ => 0))) := by rw [hq2, va_up_ne _ _ (by omega)]; exact Y1
  have fr : ∀ j, j < n → j ≠ k0 → g2 j = g j := fun j h1 h2 => by rw [hq2, va_up_ne _ _ (by omega)]; try exact fr j h1 h2
  refine lv_aload_n hx hb dX5_init_13 rfl (lv_at hl 0 rfl) ?_
  refine lv_bipush (v := 12) hx hb dX5_init_14 (by decide) ?_
  refine cx_newa (atype := .int) (cy := cA 0) (a0 := (12, .inl (fun _ => 0))) hx hb (hgw _ w_d160d5ac) (hK.2 0 _ rfl).2 hO (fun _ => rfl) (by decide) rfl (by decide) (Nat.le_of_ble_eq_true rfl) (Nat.le_of_ble_eq_true rfl) dX5_init_16 (fun H hO => ?_)
  obtain ⟨g3, hq3⟩ : ∃ x, x = va_up g2 (n + 1) (.inl (cA 0, 12, .inl (fun _ => 0))) := ⟨_, rfl⟩
  rw [← hq3] at hO
  have Y2 : g3 (n + 1) = .inl (cA 0, 12, .inl (fun _ => 0)) := by rw [hq3]; exact va_up_self _ _ _
  have Y0 : g3 (k0) = .inr (5, [.null, .ref (b + (n)), .null]) := by rw [hq3, va_up_ne _ _ (by omega)]; exact Y0
  have Y1 : g3 (n) = .inl (cA 1, 192, .inr (.inl (fun _ => 0))) := by rw [hq3, va_up_ne _ _ (by omega)]; exact Y1
  have fr : ∀ j, j < n → j ≠ k0 → g3 j = g j := fun j h1 h2 => by rw [hq3, va_up_ne _ _ (by omega)]; try exact fr j h1 h2
  refine cx_putF (D := D) (cA := cA) (ci := 5) (v := .ref (b + (n + 1))) (ty := .array .int) (C := RX5) (T := TX5) (N := 3) hx hb hgw iwRows tyX5 tyX5_ok nmX5 hown hK hO (q0 := k0) (by omega) Y0 rfl 2 (by decide) (hgw _ w_642cd4aa) (fun _ h => h) rfl hin rfl (by decide +kernel) rfl rfl (Nat.le_of_ble_eq_true rfl) dX5_init_18 (fun H locs hO _ => ?_)
  have hO : cxO D b (n + 2) (va_up g3 k0 (.inr (5, [.null, .ref (b + (n)), .ref (b + (n + 1))]))) s H locs := hO
  obtain ⟨g4, hq4⟩ : ∃ x, x = va_up g3 (k0) (.inr (5, [.null, .ref (b + (n)), .ref (b + (n + 1))])) := ⟨_, rfl⟩
  rw [← hq4] at hO
  have Y0 : g4 (k0) = .inr (5, [.null, .ref (b + (n)), .ref (b + (n + 1))]) := by rw [hq4]; exact va_up_self _ _ _
  have Y1 : g4 (n) = .inl (cA 1, 192, .inr (.inl (fun _ => 0))) := by rw [hq4, va_up_ne _ _ (by omega)]; exact Y1
  have Y2 : g4 (n + 1) = .inl (cA 0, 12, .inl (fun _ => 0)) := by rw [hq4, va_up_ne _ _ (by omega)]; exact Y2
  have fr : ∀ j, j < n → j ≠ k0 → g4 j = g j := fun j h1 h2 => by rw [hq4, va_up_ne _ _ (by omega)]; try exact fr j h1 h2
  refine lv_aload_n hx hb dX5_init_21 rfl (lv_at hl 0 rfl) ?_
  refine lv_aload_n hx hb dX5_init_22 rfl (lv_at hl 1 rfl) ?_
  refine cx_putF (D := D) (cA := cA) (ci := 5) (v := .ref (b + p1)) (ty := .object "CallWalker$Pile") (C := RX5) (T := TX5) (N := 3) hx hb hgw iwRows tyX5 tyX5_ok nmX5 hown hK hO (q0 := k0) (by omega) Y0 rfl 0 (by decide) (hgw _ w_b00e8dcd) (fun _ h => h) rfl hin rfl (by decide +kernel) rfl rfl (Nat.le_of_ble_eq_true rfl) dX5_init_23 (fun H locs hO _ => ?_)
  have hO : cxO D b (n + 2) (va_up g4 k0 (.inr (5, [.ref (b + p1), .ref (b + (n)), .ref (b + (n + 1))]))) s H locs := hO
  obtain ⟨g5, hq5⟩ : ∃ x, x = va_up g4 (k0) (.inr (5, [.ref (b + p1), .ref (b + (n)), .ref (b + (n + 1))])) := ⟨_, rfl⟩
  rw [← hq5] at hO
  have Y0 : g5 (k0) = .inr (5, [.ref (b + p1), .ref (b + (n)), .ref (b + (n + 1))]) := by rw [hq5]; exact va_up_self _ _ _
  have Y1 : g5 (n) = .inl (cA 1, 192, .inr (.inl (fun _ => 0))) := by rw [hq5, va_up_ne _ _ (by omega)]; exact Y1
  have Y2 : g5 (n + 1) = .inl (cA 0, 12, .inl (fun _ => 0)) := by rw [hq5, va_up_ne _ _ (by omega)]; exact Y2
  have fr : ∀ j, j < n → j ≠ k0 → g5 j = g j := fun j h1 h2 => by rw [hq5, va_up_ne _ _ (by omega)]; try exact fr j h1 h2
  exact cx_vret hx hb hr hlocks hO ⟨Y0, Y1, Y2, fr⟩ dX5_init_26
set_option maxHeartbeats 4000000 in
set_option maxRecDepth 100000 in
theorem cx_Frame_init (l : Launch) (D : va_G) (cA : Nat → ClassId) (b n k0 : Nat) (hk0 : k0 < n) (g : Nat → va_E) (Y0 : g k0 = .inr (2, [.null, .null, .null, .null, .int 0, .null, .int 0, .int 0, .int 0, .int 0])) (p1 : Nat) (hp1 : p1 < n) : Met l yX2_init (wv yX2_init cX2_init 2 none) ({ frames := 2, cells := 8, slots := 243, locals := 33 }) (va_Pc [.ref (b + k0), .ref (b + p1)] (cxU D cA b n g)) (cxQ D b (n + 8) (fun g2 => g2 (k0) = .inr (2, [.ref (b + (n + 2)), .ref (b + (n + 5)), .ref (b + (n)), .ref (b + (n + 1)), .int 0, .ref (b + p1), .int 0, .int (-1), .int 0, .int 0]) ∧ g2 (n) = .inl (cA 0, 4, .inl (fun _ => 0)) ∧ g2 (n + 1) = .inl (cA 0, 4, .inl (fun _ => 0)) ∧ g2 (n + 2) = .inr (4, [.ref (b + (n + 3)), .ref (b + (n + 4)), .int 0, .int 0]) ∧ g2 (n + 3) = .inl (cA 0, 12, .inl (fun _ => 0)) ∧ g2 (n + 4) = .inl (cA 1, 12, .inr (.inl (fun _ => 0))) ∧ g2 (n + 5) = .inr (5, [.ref (b + (n + 2)), .ref (b + (n + 6)), .ref (b + (n + 7))]) ∧ g2 (n + 6) = .inl (cA 1, 192, .inr (.inl (fun _ => 0))) ∧ g2 (n + 7) = .inl (cA 0, 12, .inl (fun _ => 0)) ∧ ∀ j, j < n → j ≠ k0 → g2 j = g j)) 8 243 (cxA b) := by
  refine Met.ofW (cc := cX2_init) (maxL := 2) (ret := none) (by decide) rfl ?_
  intro p e s m args below meth c s₁ B hml hv
  obtain ⟨rfl, hP, hz, hK, hN⟩ := hv
  have hx := B.exec
  have hb := B.bytes
  have hr := B.returns
  have hts := atoms_spec (ws := wv yX2_init cX2_init 2 none) B.pre
  have hown : s.vm.findClass RX2 = some m.cls := findClass_of_methodNamed B.named
  have hlocks := B.notSynchronized
  have hin : meth.name = "<init>" := (name_of_methodNamed B.named B.method).1
  have hO : cxO D b n g s s.heap [] := ⟨hP, va_S.rf, hz⟩
  have hl := lv_entry ([.ref (b + k0), .ref (b + p1)]) (n := 2) (Nat.le_of_ble_eq_true rfl)
  rw [lg_entry_eq]
  generalize (lg_sl ([.ref (b + k0), .ref (b + p1)]) ++ List.replicate (2 - (lg_sl ([.ref (b + k0), .ref (b + p1)])).length) Slot.unset).toArray = ls at hl ⊢
  have hl : lv_has ls 2 [(0, .ref (b + k0)), (1, .ref (b + p1))] := hl
  have hgw := fun (w : Cond) (h : w ∈ gwW) => hts w (List.mem_cons_of_mem _ h)
  have fr : ∀ j, j < n → j ≠ k0 → g j = g j := fun _ _ _ => rfl
  refine lv_aload_n hx hb dX2_init_0 rfl (lv_at hl 0 rfl) ?_
  refine W.objInit hx hb hown (hgw _ w_148f03a2) (hgw _ w_fba9d542) (hgw _ w_9febdb7e) rfl (by rw [hml]; exact hl.1) rfl dX2_init_1 (Nat.le_of_ble_eq_true rfl) (Nat.le_of_ble_eq_true rfl) ?_
  refine W.eq (g2 := F0 m 4 ls []) rfl ?_
  refine lv_aload_n hx hb dX2_init_4 rfl (lv_at hl 0 rfl) ?_
  refine lv_iconst (v := 4) hx hb dX2_init_5 (by decide) ?_
  refine cx_newa (atype := .int) (cy := cA 0) (a0 := (4, .inl (fun _ => 0))) hx hb (hgw _ w_d160d5ac) (hK.2 0 _ rfl).2 hO (fun _ => rfl) (by decide) rfl (by decide) (Nat.le_of_ble_eq_true rfl) (Nat.le_of_ble_eq_true rfl) dX2_init_6 (fun H hO => ?_)
  obtain ⟨g1, hq1⟩ : ∃ x, x = va_up g (n) (.inl (cA 0, 4, .inl (fun _ => 0))) := ⟨_, rfl⟩
  rw [← hq1] at hO
  have Y1 : g1 (n) = .inl (cA 0, 4, .inl (fun _ => 0)) := by rw [hq1]; exact va_up_self _ _ _
  have Y0 : g1 (k0) = .inr (2, [.null, .null, .null, .null, .int 0, .null, .int 0, .int 0, .int 0, .int 0]) := by rw [hq1, va_up_ne _ _ (by omega)]; exact Y0
  have fr : ∀ j, j < n → j ≠ k0 → g1 j = g j := fun j h1 h2 => by rw [hq1, va_up_ne _ _ (by omega)]; try exact fr j h1 h2
  refine cx_putF (D := D) (cA := cA) (ci := 2) (v := .ref (b + (n))) (ty := .array .int) (C := RX2) (T := TX2) (N := 10) hx hb hgw iwFrame tyX2 tyX2_ok nmX2 hown hK hO (q0 := k0) (by omega) Y0 rfl 2 (by decide) (hgw _ w_a926dd89) (fun _ h => h) rfl hin rfl (by decide +kernel) rfl rfl (Nat.le_of_ble_eq_true rfl) dX2_init_8 (fun H locs hO _ => ?_)
  have hO : cxO D b (n + 1) (va_up g1 k0 (.inr (2, [.null, .null, .ref (b + (n)), .null, .int 0, .null, .int 0, .int 0, .int 0, .int 0]))) s H locs := hO
  obtain ⟨g2, hq2⟩ : ∃ x, x = va_up g1 (k0) (.inr (2, [.null, .null, .ref (b + (n)), .null, .int 0, .null, .int 0, .int 0, .int 0, .int 0])) := ⟨_, rfl⟩
  rw [← hq2] at hO
  have Y0 : g2 (k0) = .inr (2, [.null, .null, .ref (b + (n)), .null, .int 0, .null, .int 0, .int 0, .int 0, .int 0]) := by rw [hq2]; exact va_up_self _ _ _
  have Y1 : g2 (n) = .inl (cA 0, 4, .inl (fun _ => 0)) := by rw [hq2, va_up_ne _ _ (by omega)]; exact Y1
  have fr : ∀ j, j < n → j ≠ k0 → g2 j = g j := fun j h1 h2 => by rw [hq2, va_up_ne _ _ (by omega)]; try exact fr j h1 h2
  refine lv_aload_n hx hb dX2_init_11 rfl (lv_at hl 0 rfl) ?_
  refine lv_iconst (v := 4) hx hb dX2_init_12 (by decide) ?_
  refine cx_newa (atype := .int) (cy := cA 0) (a0 := (4, .inl (fun _ => 0))) hx hb (hgw _ w_d160d5ac) (hK.2 0 _ rfl).2 hO (fun _ => rfl) (by decide) rfl (by decide) (Nat.le_of_ble_eq_true rfl) (Nat.le_of_ble_eq_true rfl) dX2_init_13 (fun H hO => ?_)
  obtain ⟨g3, hq3⟩ : ∃ x, x = va_up g2 (n + 1) (.inl (cA 0, 4, .inl (fun _ => 0))) := ⟨_, rfl⟩
  rw [← hq3] at hO
  have Y2 : g3 (n + 1) = .inl (cA 0, 4, .inl (fun _ => 0)) := by rw [hq3]; exact va_up_self _ _ _
  have Y0 : g3 (k0) = .inr (2, [.null, .null, .ref (b + (n)), .null, .int 0, .null, .int 0, .int 0, .int 0, .int 0]) := by rw [hq3, va_up_ne _ _ (by omega)]; exact Y0
  have Y1 : g3 (n) = .inl (cA 0, 4, .inl (fun _ => 0)) := by rw [hq3, va_up_ne _ _ (by omega)]; exact Y1
  have fr : ∀ j, j < n → j ≠ k0 → g3 j = g j := fun j h1 h2 => by rw [hq3, va_up_ne _ _ (by omega)]; try exact fr j h1 h2
  refine cx_putF (D := D) (cA := cA) (ci := 2) (v := .ref (b + (n + 1))) (ty := .array .int) (C := RX2) (T := TX2) (N := 10) hx hb hgw iwFrame tyX2 tyX2_ok nmX2 hown hK hO (q0 := k0) (by omega) Y0 rfl 3 (by decide) (hgw _ w_26449b3e) (fun _ h => h) rfl hin rfl (by decide +kernel) rfl rfl (Nat.le_of_ble_eq_true rfl) dX2_init_15 (fun H locs hO _ => ?_)
  have hO : cxO D b (n + 2) (va_up g3 k0 (.inr (2, [.null, .null, .ref (b + (n)), .ref (b + (n + 1)), .int 0, .null, .int 0, .int 0, .int 0, .int 0]))) s H locs := hO
  obtain ⟨g4, hq4⟩ : ∃ x, x = va_up g3 (k0) (.inr (2, [.null, .null, .ref (b + (n)), .ref (b + (n + 1)), .int 0, .null, .int 0, .int 0, .int 0, .int 0])) := ⟨_, rfl⟩
  rw [← hq4] at hO
  have Y0 : g4 (k0) = .inr (2, [.null, .null, .ref (b + (n)), .ref (b + (n + 1)), .int 0, .null, .int 0, .int 0, .int 0, .int 0]) := by rw [hq4]; exact va_up_self _ _ _
  have Y1 : g4 (n) = .inl (cA 0, 4, .inl (fun _ => 0)) := by rw [hq4, va_up_ne _ _ (by omega)]; exact Y1
  have Y2 : g4 (n + 1) = .inl (cA 0, 4, .inl (fun _ => 0)) := by rw [hq4, va_up_ne _ _ (by omega)]; exact Y2
  have fr : ∀ j, j < n → j ≠ k0 → g4 j = g j := fun j h1 h2 => by rw [hq4, va_up_ne _ _ (by omega)]; try exact fr j h1 h2
  refine lv_aload_n hx hb dX2_init_18 rfl (lv_at hl 0 rfl) ?_
  refine lv_iconst (v := 0) hx hb dX2_init_19 (by decide) ?_
  refine cx_put (D := D) (cA := cA) (ci := 2) (v := .int 0) (ty := .int) (C := RX2) (T := TX2) (N := 10) hx hb hgw iwFrame tyX2 tyX2_ok nmX2 hown hK hO (q0 := k0) (by omega) Y0 rfl 4 (by decide) (hgw _ w_f66d2fea) (fun _ h => h) rfl (by decide +kernel) rfl rfl (Nat.le_of_ble_eq_true rfl) dX2_init_20 (fun H locs hO _ => ?_)
  have hO : cxO D b (n + 2) (va_up g4 k0 (.inr (2, [.null, .null, .ref (b + (n)), .ref (b + (n + 1)), .int 0, .null, .int 0, .int 0, .int 0, .int 0]))) s H locs := hO
  obtain ⟨g5, hq5⟩ : ∃ x, x = va_up g4 (k0) (.inr (2, [.null, .null, .ref (b + (n)), .ref (b + (n + 1)), .int 0, .null, .int 0, .int 0, .int 0, .int 0])) := ⟨_, rfl⟩
  rw [← hq5] at hO
  have Y0 : g5 (k0) = .inr (2, [.null, .null, .ref (b + (n)), .ref (b + (n + 1)), .int 0, .null, .int 0, .int 0, .int 0, .int 0]) := by rw [hq5]; exact va_up_self _ _ _
  have Y1 : g5 (n) = .inl (cA 0, 4, .inl (fun _ => 0)) := by rw [hq5, va_up_ne _ _ (by omega)]; exact Y1
  have Y2 : g5 (n + 1) = .inl (cA 0, 4, .inl (fun _ => 0)) := by rw [hq5, va_up_ne _ _ (by omega)]; exact Y2
  have fr : ∀ j, j < n → j ≠ k0 → g5 j = g j := fun j h1 h2 => by rw [hq5, va_up_ne _ _ (by omega)]; try exact fr j h1 h2
  refine lv_aload_n hx hb dX2_init_23 rfl (lv_at hl 0 rfl) ?_
  refine lv_iconst (v := 0) hx hb dX2_init_24 (by decide) ?_
  refine cx_put (D := D) (cA := cA) (ci := 2) (v := .int 0) (ty := .int) (C := RX2) (T := TX2) (N := 10) hx hb hgw iwFrame tyX2 tyX2_ok nmX2 hown hK hO (q0 := k0) (by omega) Y0 rfl 6 (by decide) (hgw _ w_69511b5c) (fun _ h => h) rfl (by decide +kernel) rfl rfl (Nat.le_of_ble_eq_true rfl) dX2_init_25 (fun H locs hO _ => ?_)
  have hO : cxO D b (n + 2) (va_up g5 k0 (.inr (2, [.null, .null, .ref (b + (n)), .ref (b + (n + 1)), .int 0, .null, .int 0, .int 0, .int 0, .int 0]))) s H locs := hO
  obtain ⟨g6, hq6⟩ : ∃ x, x = va_up g5 (k0) (.inr (2, [.null, .null, .ref (b + (n)), .ref (b + (n + 1)), .int 0, .null, .int 0, .int 0, .int 0, .int 0])) := ⟨_, rfl⟩
  rw [← hq6] at hO
  have Y0 : g6 (k0) = .inr (2, [.null, .null, .ref (b + (n)), .ref (b + (n + 1)), .int 0, .null, .int 0, .int 0, .int 0, .int 0]) := by rw [hq6]; exact va_up_self _ _ _
  have Y1 : g6 (n) = .inl (cA 0, 4, .inl (fun _ => 0)) := by rw [hq6, va_up_ne _ _ (by omega)]; exact Y1
  have Y2 : g6 (n + 1) = .inl (cA 0, 4, .inl (fun _ => 0)) := by rw [hq6, va_up_ne _ _ (by omega)]; exact Y2
  have fr : ∀ j, j < n → j ≠ k0 → g6 j = g j := fun j h1 h2 => by rw [hq6, va_up_ne _ _ (by omega)]; try exact fr j h1 h2
  refine lv_aload_n hx hb dX2_init_28 rfl (lv_at hl 0 rfl) ?_
  refine lv_iconst (v := -1) hx hb dX2_init_29 (by decide) ?_
  refine cx_put (D := D) (cA := cA) (ci := 2) (v := .int (-1)) (ty := .int) (C := RX2) (T := TX2) (N := 10) hx hb hgw iwFrame tyX2 tyX2_ok nmX2 hown hK hO (q0 := k0) (by omega) Y0 rfl 7 (by decide) (hgw _ w_e3b0c746) (fun _ h => h) rfl (by decide +kernel) rfl rfl (Nat.le_of_ble_eq_true rfl) dX2_init_30 (fun H locs hO _ => ?_)
  have hO : cxO D b (n + 2) (va_up g6 k0 (.inr (2, [.null, .null, .ref (b + (n)), .ref (b + (n + 1)), .int 0, .null, .int 0, .int (-1), .int 0, .int 0]))) s H locs := hO
  obtain ⟨g7, hq7⟩ : ∃ x, x = va_up g6 (k0) (.inr (2, [.null, .null, .ref (b + (n)), .ref (b + (n + 1)), .int 0, .null, .int 0, .int (-1), .int 0, .int 0])) := ⟨_, rfl⟩
  rw [← hq7] at hO
  have Y0 : g7 (k0) = .inr (2, [.null, .null, .ref (b + (n)), .ref (b + (n + 1)), .int 0, .null, .int 0, .int (-1), .int 0, .int 0]) := by rw [hq7]; exact va_up_self _ _ _
  have Y1 : g7 (n) = .inl (cA 0, 4, .inl (fun _ => 0)) := by rw [hq7, va_up_ne _ _ (by omega)]; exact Y1
  have Y2 : g7 (n + 1) = .inl (cA 0, 4, .inl (fun _ => 0)) := by rw [hq7, va_up_ne _ _ (by omega)]; exact Y2
  have fr : ∀ j, j < n → j ≠ k0 → g7 j = g j := fun j h1 h2 => by rw [hq7, va_up_ne _ _ (by omega)]; try exact fr j h1 h2
  refine lv_aload_n hx hb dX2_init_33 rfl (lv_at hl 0 rfl) ?_
  refine lv_iconst (v := 0) hx hb dX2_init_34 (by decide) ?_
  refine cx_put (D := D) (cA := cA) (ci := 2) (v := .int 0) (ty := .int) (C := RX2) (T := TX2) (N := 10) hx hb hgw iwFrame tyX2 tyX2_ok nmX2 hown hK hO (q0 := k0) (by omega) Y0 rfl 8 (by decide) (hgw _ w_85cdfb7b) (fun _ h => h) rfl (by decide +kernel) rfl rfl (Nat.le_of_ble_eq_true rfl) dX2_init_35 (fun H locs hO _ => ?_)
  have hO : cxO D b (n + 2) (va_up g7 k0 (.inr (2, [.null, .null, .ref (b + (n)), .ref (b + (n + 1)), .int 0, .null, .int 0, .int (-1), .int 0, .int 0]))) s H locs := hO
  obtain ⟨g8, hq8⟩ : ∃ x, x = va_up g7 (k0) (.inr (2, [.null, .null, .ref (b + (n)), .ref (b + (n + 1)), .int 0, .null, .int 0, .int (-1), .int 0, .int 0])) := ⟨_, rfl⟩
  rw [← hq8] at hO
  have Y0 : g8 (k0) = .inr (2, [.null, .null, .ref (b + (n)), .ref (b + (n + 1)), .int 0, .null, .int 0, .int (-1), .int 0, .int 0]) := by rw [hq8]; exact va_up_self _ _ _
  have Y1 : g8 (n) = .inl (cA 0, 4, .inl (fun _ => 0)) := by rw [hq8, va_up_ne _ _ (by omega)]; exact Y1
  have Y2 : g8 (n + 1) = .inl (cA 0, 4, .inl (fun _ => 0)) := by rw [hq8, va_up_ne _ _ (by omega)]; exact Y2
  have fr : ∀ j, j < n → j ≠ k0 → g8 j = g j := fun j h1 h2 => by rw [hq8, va_up_ne _ _ (by omega)]; try exact fr j h1 h2
  refine lv_aload_n hx hb dX2_init_38 rfl (lv_at hl 0 rfl) ?_
  refine lv_iconst (v := 0) hx hb dX2_init_39 (by decide) ?_
  refine cx_put (D := D) (cA := cA) (ci := 2) (v := .int 0) (ty := .int) (C := RX2) (T := TX2) (N := 10) hx hb hgw iwFrame tyX2 tyX2_ok nmX2 hown hK hO (q0 := k0) (by omega) Y0 rfl 9 (by decide) (hgw _ w_b790a6d0) (fun _ h => h) rfl (by decide +kernel) rfl rfl (Nat.le_of_ble_eq_true rfl) dX2_init_40 (fun H locs hO _ => ?_)
  have hO : cxO D b (n + 2) (va_up g8 k0 (.inr (2, [.null, .null, .ref (b + (n)), .ref (b + (n + 1)), .int 0, .null, .int 0, .int (-1), .int 0, .int 0]))) s H locs := hO
  obtain ⟨g9, hq9⟩ : ∃ x, x = va_up g8 (k0) (.inr (2, [.null, .null, .ref (b + (n)), .ref (b + (n + 1)), .int 0, .null, .int 0, .int (-1), .int 0, .int 0])) := ⟨_, rfl⟩
  rw [← hq9] at hO
  have Y0 : g9 (k0) = .inr (2, [.null, .null, .ref (b + (n)), .ref (b + (n + 1)), .int 0, .null, .int 0, .int (-1), .int 0, .int 0]) := by rw [hq9]; exact va_up_self _ _ _
  have Y1 : g9 (n) = .inl (cA 0, 4, .inl (fun _ => 0)) := by rw [hq9, va_up_ne _ _ (by omega)]; exact Y1
  have Y2 : g9 (n + 1) = .inl (cA 0, 4, .inl (fun _ => 0)) := by rw [hq9, va_up_ne _ _ (by omega)]; exact Y2
  have fr : ∀ j, j < n → j ≠ k0 → g9 j = g j := fun j h1 h2 => by rw [hq9, va_up_ne _ _ (by omega)]; try exact fr j h1 h2
  refine lv_aload_n hx hb dX2_init_43 rfl (lv_at hl 0 rfl) ?_
  refine lv_aload_n hx hb dX2_init_44 rfl (lv_at hl 1 rfl) ?_
  refine cx_put (D := D) (cA := cA) (ci := 2) (v := .ref (b + p1)) (ty := .object "CallWalker$Behaviour") (C := RX2) (T := TX2) (N := 10) hx hb hgw iwFrame tyX2 tyX2_ok nmX2 hown hK hO (q0 := k0) (by omega) Y0 rfl 5 (by decide) (hgw _ w_99489c43) (fun _ h => h) rfl (by decide +kernel) rfl rfl (Nat.le_of_ble_eq_true rfl) dX2_init_45 (fun H locs hO _ => ?_)
  have hO : cxO D b (n + 2) (va_up g9 k0 (.inr (2, [.null, .null, .ref (b + (n)), .ref (b + (n + 1)), .int 0, .ref (b + p1), .int 0, .int (-1), .int 0, .int 0]))) s H locs := hO
  obtain ⟨g10, hq10⟩ : ∃ x, x = va_up g9 (k0) (.inr (2, [.null, .null, .ref (b + (n)), .ref (b + (n + 1)), .int 0, .ref (b + p1), .int 0, .int (-1), .int 0, .int 0])) := ⟨_, rfl⟩
  rw [← hq10] at hO
  have Y0 : g10 (k0) = .inr (2, [.null, .null, .ref (b + (n)), .ref (b + (n + 1)), .int 0, .ref (b + p1), .int 0, .int (-1), .int 0, .int 0]) := by rw [hq10]; exact va_up_self _ _ _
  have Y1 : g10 (n) = .inl (cA 0, 4, .inl (fun _ => 0)) := by rw [hq10, va_up_ne _ _ (by omega)]; exact Y1
  have Y2 : g10 (n + 1) = .inl (cA 0, 4, .inl (fun _ => 0)) := by rw [hq10, va_up_ne _ _ (by omega)]; exact Y2
  have fr : ∀ j, j < n → j ≠ k0 → g10 j = g j := fun j h1 h2 => by rw [hq10, va_up_ne _ _ (by omega)]; try exact fr j h1 h2
  refine lv_aload_n hx hb dX2_init_48 rfl (lv_at hl 0 rfl) ?_
  refine cx_new (ci := 4) (fs := [.null, .null, .int 0, .int 0]) (C := RX4) (T := TX4) (N := 4) hx hb hgw iwPile tyX4 tyX4_ok hown (hgw _ w_84db375e) (hgw _ w_5bf86b5c) (hgw _ w_76c797a4) hK hO rfl (fun j hj => by rcases (show j = 0 ∨ j = 1 ∨ j = 2 ∨ j = 3 by omega) with rfl | rfl | rfl | rfl <;> rfl) (Nat.le_of_ble_eq_true rfl) (Nat.le_of_ble_eq_true rfl) dX2_init_49 (fun H hO => ?_)
  obtain ⟨g11, hq11⟩ : ∃ x, x = va_up g10 (n + 2) (.inr (4, [.null, .null, .int 0, .int 0])) := ⟨_, rfl⟩
  rw [← hq11] at hO
  have Y3 : g11 (n + 2) = .inr (4, [.null, .null, .int 0, .int 0]) := by rw [hq11]; exact va_up_self _ _ _
  have Y0 : g11 (k0) = .inr (2, [.null, .null, .ref (b + (n)), .ref (b + (n + 1)), .int 0, .ref (b + p1), .int 0, .int (-1), .int 0, .int 0]) := by rw [hq11, va_up_ne _ _ (by omega)]; exact Y0
  have Y1 : g11 (n) = .inl (cA 0, 4, .inl (fun _ => 0)) := by rw [hq11, va_up_ne _ _ (by omega)]; exact Y1
  have Y2 : g11 (n + 1) = .inl (cA 0, 4, .inl (fun _ => 0)) := by rw [hq11, va_up_ne _ _ (by omega)]; exact Y2
  have fr : ∀ j, j < n → j ≠ k0 → g11 j = g j := fun j h1 h2 => by rw [hq11, va_up_ne _ _ (by omega)]; try exact fr j h1 h2
  refine lv_dup hx hb dX2_init_52 rfl ?_
  refine cx_callv (va_runIN (As := []) (rest := [.ref (b + (n + 2)), .ref (b + k0)]) ⟨hx, hb, hml, hown, hts⟩ (cx_Pile_init l D cA b (n + 3) (n + 2) (by omega) _ Y3) ⟨va_cnB 0 hts (gw_N w_c478a159) rfl rfl rfl hN.2.2.1 (hgw _ w_76c797a4) (by decide +kernel) ⟨Nat.le_of_ble_eq_true rfl, Nat.le_of_ble_eq_true rfl⟩, rfl, hgw _ w_56b3076f⟩ (cx_preS hK hN hO) rfl rfl hl.1 rfl (lv_room (Nat.le_of_ble_eq_true rfl)) dX2_init_53 ⟨Nat.le_of_ble_eq_true rfl, Nat.le_of_ble_eq_true rfl⟩) hO (fun g12 H locs hF hO => ?_)
  obtain ⟨Z12_0, Z12_1, Z12_2, cfr⟩ := hF
  have Y0 : g12 (k0) = .inr (2, [.null, .null, .ref (b + (n)), .ref (b + (n + 1)), .int 0, .ref (b + p1), .int 0, .int (-1), .int 0, .int 0]) := by rw [cfr _ (by omega) (by omega)]; exact Y0
  have Y1 : g12 (n) = .inl (cA 0, 4, .inl (fun _ => 0)) := by rw [cfr _ (by omega) (by omega)]; exact Y1
  have Y2 : g12 (n + 1) = .inl (cA 0, 4, .inl (fun _ => 0)) := by rw [cfr _ (by omega) (by omega)]; exact Y2
  have fr : ∀ j, j < n → j ≠ k0 → g12 j = g j := fun j h1 h2 => by rw [cfr _ (by omega) (by omega)]; try exact fr j h1 h2
  have Y3 : g12 (n + 2) = .inr (4, [.ref (b + (n + 3)), .ref (b + (n + 4)), .int 0, .int 0]) := Z12_0
  have Y1204 : g12 (n + 3) = .inl (cA 0, 12, .inl (fun _ => 0)) := Z12_1
  have Y1205 : g12 (n + 4) = .inl (cA 1, 12, .inr (.inl (fun _ => 0))) := Z12_2
  refine cx_putF (D := D) (cA := cA) (ci := 2) (v := .ref (b + (n + 2))) (ty := .object "CallWalker$Pile") (C := RX2) (T := TX2) (N := 10) hx hb hgw iwFrame tyX2 tyX2_ok nmX2 hown hK hO (q0 := k0) (by omega) Y0 rfl 0 (by decide) (hgw _ w_bb005698) (fun _ h => h) rfl hin rfl (by decide +kernel) rfl rfl (Nat.le_of_ble_eq_true rfl) dX2_init_56 (fun H locs hO _ => ?_)
  have hO : cxO D b (n + 5) (va_up g12 k0 (.inr (2, [.ref (b + (n + 2)), .null, .ref (b + (n)), .ref (b + (n + 1)), .int 0, .ref (b + p1), .int 0, .int (-1), .int 0, .int 0]))) s H locs := hO
  obtain ⟨g13, hq13⟩ : ∃ x, x = va_up g12 (k0) (.inr (2, [.ref (b + (n + 2)), .null, .ref (b + (n)), .ref (b + (n + 1)), .int 0, .ref (b + p1), .int 0, .int (-1), .int 0, .int 0])) := ⟨_, rfl⟩
  rw [← hq13] at hO
  have Y0 : g13 (k0) = .inr (2, [.ref (b + (n + 2)), .null, .ref (b + (n)), .ref (b + (n + 1)), .int 0, .ref (b + p1), .int 0, .int (-1), .int 0, .int 0]) := by rw [hq13]; exact va_up_self _ _ _
  have Y1 : g13 (n) = .inl (cA 0, 4, .inl (fun _ => 0)) := by rw [hq13, va_up_ne _ _ (by omega)]; exact Y1
  have Y2 : g13 (n + 1) = .inl (cA 0, 4, .inl (fun _ => 0)) := by rw [hq13, va_up_ne _ _ (by omega)]; exact Y2
  have Y3 : g13 (n + 2) = .inr (4, [.ref (b + (n + 3)), .ref (b + (n + 4)), .int 0, .int 0]) := by rw [hq13, va_up_ne _ _ (by omega)]; exact Y3
  have Y1204 : g13 (n + 3) = .inl (cA 0, 12, .inl (fun _ => 0)) := by rw [hq13, va_up_ne _ _ (by omega)]; exact Y1204
  have Y1205 : g13 (n + 4) = .inl (cA 1, 12, .inr (.inl (fun _ => 0))) := by rw [hq13, va_up_ne _ _ (by omega)]; exact Y1205
  have fr : ∀ j, j < n → j ≠ k0 → g13 j = g j := fun j h1 h2 => by rw [hq13, va_up_ne _ _ (by omega)]; try exact fr j h1 h2
  refine lv_aload_n hx hb dX2_init_59 rfl (lv_at hl 0 rfl) ?_
  refine cx_new (ci := 5) (fs := [.null, .null, .null]) (C := RX5) (T := TX5) (N := 3) hx hb hgw iwRows tyX5 tyX5_ok hown (hgw _ w_47c43fb0) (hgw _ w_b4bf32f7) (hgw _ w_8bdbd0d2) hK hO rfl (fun j hj => by rcases (show j = 0 ∨ j = 1 ∨ j = 2 by omega) with rfl | rfl | rfl <;> rfl) (Nat.le_of_ble_eq_true rfl) (Nat.le_of_ble_eq_true rfl) dX2_init_60 (fun H hO => ?_)
  obtain ⟨g14, hq14⟩ : ∃ x, x = va_up g13 (n + 5) (.inr (5, [.null, .null, .null])) := ⟨_, rfl⟩
  rw [← hq14] at hO
  have Y6 : g14 (n + 5) = .inr (5, [.null, .null, .null]) := by rw [hq14]; exact va_up_self _ _ _
  have Y0 : g14 (k0) = .inr (2, [.ref (b + (n + 2)), .null, .ref (b + (n)), .ref (b + (n + 1)), .int 0, .ref (b + p1), .int 0, .int (-1), .int 0, .int 0]) := by rw [hq14, va_up_ne _ _ (by omega)]; exact Y0
  have Y1 : g14 (n) = .inl (cA 0, 4, .inl (fun _ => 0)) := by rw [hq14, va_up_ne _ _ (by omega)]; exact Y1
  have Y2 : g14 (n + 1) = .inl (cA 0, 4, .inl (fun _ => 0)) := by rw [hq14, va_up_ne _ _ (by omega)]; exact Y2
  have Y3 : g14 (n + 2) = .inr (4, [.ref (b + (n + 3)), .ref (b + (n + 4)), .int 0, .int 0]) := by rw [hq14, va_up_ne _ _ (by omega)]; exact Y3
  have Y1204 : g14 (n + 3) = .inl (cA 0, 12, .inl (fun _ => 0)) := by rw [hq14, va_up_ne _ _ (by omega)]; exact Y1204
  have Y1205 : g14 (n + 4) = .inl (cA 1, 12, .inr (.inl (fun _ => 0))) := by rw [hq14, va_up_ne _ _ (by omega)]; exact Y1205
  have fr : ∀ j, j < n → j ≠ k0 → g14 j = g j := fun j h1 h2 => by rw [hq14, va_up_ne _ _ (by omega)]; try exact fr j h1 h2
  refine lv_dup hx hb dX2_init_63 rfl ?_
  refine lv_aload_n hx hb dX2_init_64 rfl (lv_at hl 0 rfl) ?_
  refine va_get (D := D) (ci := 2) (v := .ref (b + (n + 2))) (C := RX2) (T := TX2) (N := 10) hx hb hgw iwFrame hown hK hO.1 k0 (wd_get (by omega) Y0) rfl 0 (by decide) (hgw _ w_bb005698) (fun _ h => h) rfl dX2_init_65 ?_
  refine cx_callv (va_runI (As := [.ref (b + (n + 2))]) (rest := [.ref (b + (n + 5)), .ref (b + k0)]) ⟨hx, hb, hml, hown, hts⟩ (cx_Rows_init l D cA b (n + 6) (n + 5) (by omega) _ Y6 (n + 2) (by omega)) (cwI 1 hts (gw_N w_1cf9c33f) rfl rfl rfl (hgw _ w_8bdbd0d2) (hgw _ w_f0da8190) (hgw _ w_4fbce98c) rfl (by decide +kernel) ⟨Nat.le_of_ble_eq_true rfl, Nat.le_of_ble_eq_true rfl⟩) (cx_preS hK hN hO) rfl rfl hl.1 rfl (lv_room (Nat.le_of_ble_eq_true rfl)) dX2_init_68 ⟨Nat.le_of_ble_eq_true rfl, Nat.le_of_ble_eq_true rfl⟩) hO (fun g15 H locs hF hO => ?_)
  obtain ⟨Z15_0, Z15_1, Z15_2, cfr⟩ := hF
  have Y0 : g15 (k0) = .inr (2, [.ref (b + (n + 2)), .null, .ref (b + (n)), .ref (b + (n + 1)), .int 0, .ref (b + p1), .int 0, .int (-1), .int 0, .int 0]) := by rw [cfr _ (by omega) (by omega)]; exact Y0
  have Y1 : g15 (n) = .inl (cA 0, 4, .inl (fun _ => 0)) := by rw [cfr _ (by omega) (by omega)]; exact Y1
  have Y2 : g15 (n + 1) = .inl (cA 0, 4, .inl (fun _ => 0)) := by rw [cfr _ (by omega) (by omega)]; exact Y2
  have Y3 : g15 (n + 2) = .inr (4, [.ref (b + (n + 3)), .ref (b + (n + 4)), .int 0, .int 0]) := by rw [cfr _ (by omega) (by omega)]; exact Y3
  have Y1204 : g15 (n + 3) = .inl (cA 0, 12, .inl (fun _ => 0)) := by rw [cfr _ (by omega) (by omega)]; exact Y1204
  have Y1205 : g15 (n + 4) = .inl (cA 1, 12, .inr (.inl (fun _ => 0))) := by rw [cfr _ (by omega) (by omega)]; exact Y1205
  have fr : ∀ j, j < n → j ≠ k0 → g15 j = g j := fun j h1 h2 => by rw [cfr _ (by omega) (by omega)]; try exact fr j h1 h2
  have Y6 : g15 (n + 5) = .inr (5, [.ref (b + (n + 2)), .ref (b + (n + 6)), .ref (b + (n + 7))]) := Z15_0
  have Y1507 : g15 (n + 6) = .inl (cA 1, 192, .inr (.inl (fun _ => 0))) := Z15_1
  have Y1508 : g15 (n + 7) = .inl (cA 0, 12, .inl (fun _ => 0)) := Z15_2
  refine cx_putF (D := D) (cA := cA) (ci := 2) (v := .ref (b + (n + 5))) (ty := .object "CallWalker$Rows") (C := RX2) (T := TX2) (N := 10) hx hb hgw iwFrame tyX2 tyX2_ok nmX2 hown hK hO (q0 := k0) (by omega) Y0 rfl 1 (by decide) (hgw _ w_5eb6e9d5) (fun _ h => h) rfl hin rfl (by decide +kernel) rfl rfl (Nat.le_of_ble_eq_true rfl) dX2_init_71 (fun H locs hO _ => ?_)
  have hO : cxO D b (n + 8) (va_up g15 k0 (.inr (2, [.ref (b + (n + 2)), .ref (b + (n + 5)), .ref (b + (n)), .ref (b + (n + 1)), .int 0, .ref (b + p1), .int 0, .int (-1), .int 0, .int 0]))) s H locs := hO
  obtain ⟨g16, hq16⟩ : ∃ x, x = va_up g15 (k0) (.inr (2, [.ref (b + (n + 2)), .ref (b + (n + 5)), .ref (b + (n)), .ref (b + (n + 1)), .int 0, .ref (b + p1), .int 0, .int (-1), .int 0, .int 0])) := ⟨_, rfl⟩
  rw [← hq16] at hO
  have Y0 : g16 (k0) = .inr (2, [.ref (b + (n + 2)), .ref (b + (n + 5)), .ref (b + (n)), .ref (b + (n + 1)), .int 0, .ref (b + p1), .int 0, .int (-1), .int 0, .int 0]) := by rw [hq16]; exact va_up_self _ _ _
  have Y1 : g16 (n) = .inl (cA 0, 4, .inl (fun _ => 0)) := by rw [hq16, va_up_ne _ _ (by omega)]; exact Y1
  have Y2 : g16 (n + 1) = .inl (cA 0, 4, .inl (fun _ => 0)) := by rw [hq16, va_up_ne _ _ (by omega)]; exact Y2
  have Y3 : g16 (n + 2) = .inr (4, [.ref (b + (n + 3)), .ref (b + (n + 4)), .int 0, .int 0]) := by rw [hq16, va_up_ne _ _ (by omega)]; exact Y3
  have Y1204 : g16 (n + 3) = .inl (cA 0, 12, .inl (fun _ => 0)) := by rw [hq16, va_up_ne _ _ (by omega)]; exact Y1204
  have Y1205 : g16 (n + 4) = .inl (cA 1, 12, .inr (.inl (fun _ => 0))) := by rw [hq16, va_up_ne _ _ (by omega)]; exact Y1205
  have Y6 : g16 (n + 5) = .inr (5, [.ref (b + (n + 2)), .ref (b + (n + 6)), .ref (b + (n + 7))]) := by rw [hq16, va_up_ne _ _ (by omega)]; exact Y6
  have Y1507 : g16 (n + 6) = .inl (cA 1, 192, .inr (.inl (fun _ => 0))) := by rw [hq16, va_up_ne _ _ (by omega)]; exact Y1507
  have Y1508 : g16 (n + 7) = .inl (cA 0, 12, .inl (fun _ => 0)) := by rw [hq16, va_up_ne _ _ (by omega)]; exact Y1508
  have fr : ∀ j, j < n → j ≠ k0 → g16 j = g j := fun j h1 h2 => by rw [hq16, va_up_ne _ _ (by omega)]; try exact fr j h1 h2
  exact cx_vret hx hb hr hlocks hO ⟨Y0, Y1, Y2, Y3, Y1204, Y1205, Y6, Y1507, Y1508, fr⟩ dX2_init_74
set_option maxHeartbeats 4000000 in
set_option maxRecDepth 100000 in
theorem cx_MF_init (l : Launch) (D : va_G) (cA : Nat → ClassId) (b n k0 : Nat) (hk0 : k0 < n) (g : Nat → va_E) (Y0 : g k0 = .inr (8, [.int 0, .int 0, .int 0, .int 0, .null, .null, .null, .null, .null, .int 0, .null, .null, .int 0, .int 0, .long 0])) : Met l yX8_init (wv yX8_init cX8_init 1 none) ({ frames := 1, cells := 7, slots := 119, locals := 12 }) (va_Pc [.ref (b + k0)] (cxU D cA b n g)) (cxQ D b (n + 7) (fun g2 => g2 (k0) = .inr (8, [.int 0, .int 0, .int 0, .int 0, .ref (b + (n)), .ref (b + (n + 1)), .ref (b + (n + 2)), .ref (b + (n + 3)), .ref (b + (n + 4)), .int 0, .ref (b + (n + 5)), .ref (b + (n + 6)), .int 0, .int 0, .long 0]) ∧ g2 (n) = .inl (cA 1, 64, .inr (.inl (fun _ => 0))) ∧ g2 (n + 1) = .inl (cA 1, 8, .inr (.inl (fun _ => 0))) ∧ g2 (n + 2) = .inl (cA 0, 13, .inl (fun _ => 0)) ∧ g2 (n + 3) = .inl (cA 1, 13, .inr (.inl (fun _ => 0))) ∧ g2 (n + 4) = .inl (cA 5, 13, .inr (.inr (.inr (.inr (fun _ => none))))) ∧ g2 (n + 5) = .inl (cA 0, 4, .inl (fun _ => 0)) ∧ g2 (n + 6) = .inl (cA 0, 4, .inl (fun _ => 0)) ∧ ∀ j, j < n → j ≠ k0 → g2 j = g j)) 7 119 (cxA b) := by
  refine Met.ofW (cc := cX8_init) (maxL := 1) (ret := none) (by decide) rfl ?_
  intro p e s m args below meth c s₁ B hml hv
  obtain ⟨rfl, hP, hz, hK, hN⟩ := hv
  have hx := B.exec
  have hb := B.bytes
  have hr := B.returns
  have hts := atoms_spec (ws := wv yX8_init cX8_init 1 none) B.pre
  have hown : s.vm.findClass RX8 = some m.cls := findClass_of_methodNamed B.named
  have hlocks := B.notSynchronized
  have hin : meth.name = "<init>" := (name_of_methodNamed B.named B.method).1
  have hO : cxO D b n g s s.heap [] := ⟨hP, va_S.rf, hz⟩
  have hl := lv_entry ([.ref (b + k0)]) (n := 1) (Nat.le_of_ble_eq_true rfl)
  rw [lg_entry_eq]
  generalize (lg_sl ([.ref (b + k0)]) ++ List.replicate (1 - (lg_sl ([.ref (b + k0)])).length) Slot.unset).toArray = ls at hl ⊢
  have hl : lv_has ls 1 [(0, .ref (b + k0))] := hl
  have hgw := fun (w : Cond) (h : w ∈ gwW) => hts w (List.mem_cons_of_mem _ h)
  have fr : ∀ j, j < n → j ≠ k0 → g j = g j := fun _ _ _ => rfl
  refine lv_aload_n hx hb dX8_init_0 rfl (lv_at hl 0 rfl) ?_
  refine W.objInit hx hb hown (hgw _ w_5e9aab79) (hgw _ w_fba9d542) (hgw _ w_9febdb7e) rfl (by rw [hml]; exact hl.1) rfl dX8_init_1 (Nat.le_of_ble_eq_true rfl) (Nat.le_of_ble_eq_true rfl) ?_
  refine W.eq (g2 := F0 m 4 ls []) rfl ?_
  refine lv_aload_n hx hb dX8_init_4 rfl (lv_at hl 0 rfl) ?_
  refine lv_bipush (v := 64) hx hb dX8_init_5 (by decide) ?_
  refine cx_newa (atype := .long) (cy := cA 1) (a0 := (64, .inr (.inl (fun _ => 0)))) hx hb (hgw _ w_f2af499d) (hK.2 1 _ rfl).2 hO (fun _ => rfl) (by decide) rfl (by decide) (Nat.le_of_ble_eq_true rfl) (Nat.le_of_ble_eq_true rfl) dX8_init_7 (fun H hO => ?_)
  obtain ⟨g1, hq1⟩ : ∃ x, x = va_up g (n) (.inl (cA 1, 64, .inr (.inl (fun _ => 0)))) := ⟨_, rfl⟩
  rw [← hq1] at hO
  have Y1 : g1 (n) = .inl (cA 1, 64, .inr (.inl (fun _ => 0))) := by rw [hq1]; exact va_up_self _ _ _
  have Y0 : g1 (k0) = .inr (8, [.int 0, .int 0, .int 0, .int 0, .null, .null, .null, .null, .null, .int 0, .null, .null, .int 0, .int 0, .long 0]) := by rw [hq1, va_up_ne _ _ (by omega)]; exact Y0
  have fr : ∀ j, j < n → j ≠ k0 → g1 j = g j := fun j h1 h2 => by rw [hq1, va_up_ne _ _ (by omega)]; try exact fr j h1 h2
  refine cx_putF (D := D) (cA := cA) (ci := 8) (v := .ref (b + (n))) (ty := .array .long) (C := RX8) (T := TX8) (N := 15) hx hb hgw iwMF tyX8 tyX8_ok nmX8 hown hK hO (q0 := k0) (by omega) Y0 rfl 4 (by decide) (hgw _ w_fc0c8dad) (fun _ h => h) rfl hin rfl (by decide +kernel) rfl rfl (Nat.le_of_ble_eq_true rfl) dX8_init_9 (fun H locs hO _ => ?_)
  have hO : cxO D b (n + 1) (va_up g1 k0 (.inr (8, [.int 0, .int 0, .int 0, .int 0, .ref (b + (n)), .null, .null, .null, .null, .int 0, .null, .null, .int 0, .int 0, .long 0]))) s H locs := hO
  obtain ⟨g2, hq2⟩ : ∃ x, x = va_up g1 (k0) (.inr (8, [.int 0, .int 0, .int 0, .int 0, .ref (b + (n)), .null, .null, .null, .null, .int 0, .null, .null, .int 0, .int 0, .long 0])) := ⟨_, rfl⟩
  rw [← hq2] at hO
  have Y0 : g2 (k0) = .inr (8, [.int 0, .int 0, .int 0, .int 0, .ref (b + (n)), .null, .null, .null, .null, .int 0, .null, .null, .int 0, .int 0, .long 0]) := by rw [hq2]; exact va_up_self _ _ _
  have Y1 : g2 (n) = .inl (cA 1, 64, .inr (.inl (fun _ => 0))) := by rw [hq2, va_up_ne _ _ (by omega)]; exact Y1
  have fr : ∀ j, j < n → j ≠ k0 → g2 j = g j := fun j h1 h2 => by rw [hq2, va_up_ne _ _ (by omega)]; try exact fr j h1 h2
  refine lv_aload_n hx hb dX8_init_12 rfl (lv_at hl 0 rfl) ?_
  refine lv_bipush (v := 8) hx hb dX8_init_13 (by decide) ?_
  refine cx_newa (atype := .long) (cy := cA 1) (a0 := (8, .inr (.inl (fun _ => 0)))) hx hb (hgw _ w_f2af499d) (hK.2 1 _ rfl).2 hO (fun _ => rfl) (by decide) rfl (by decide) (Nat.le_of_ble_eq_true rfl) (Nat.le_of_ble_eq_true rfl) dX8_init_15 (fun H hO => ?_)
  obtain ⟨g3, hq3⟩ : ∃ x, x = va_up g2 (n + 1) (.inl (cA 1, 8, .inr (.inl (fun _ => 0)))) := ⟨_, rfl⟩
  rw [← hq3] at hO
  have Y2 : g3 (n + 1) = .inl (cA 1, 8, .inr (.inl (fun _ => 0))) := by rw [hq3]; exact va_up_self _ _ _
  have Y0 : g3 (k0) = .inr (8, [.int 0, .int 0, .int 0, .int 0, .ref (b + (n)), .null, .null, .null, .null, .int 0, .null, .null, .int 0, .int 0, .long 0]) := by rw [hq3, va_up_ne _ _ (by omega)]; exact Y0
  have Y1 : g3 (n) = .inl (cA 1, 64, .inr (.inl (fun _ => 0))) := by rw [hq3, va_up_ne _ _ (by omega)]; exact Y1
  have fr : ∀ j, j < n → j ≠ k0 → g3 j = g j := fun j h1 h2 => by rw [hq3, va_up_ne _ _ (by omega)]; try exact fr j h1 h2
  refine cx_putF (D := D) (cA := cA) (ci := 8) (v := .ref (b + (n + 1))) (ty := .array .long) (C := RX8) (T := TX8) (N := 15) hx hb hgw iwMF tyX8 tyX8_ok nmX8 hown hK hO (q0 := k0) (by omega) Y0 rfl 5 (by decide) (hgw _ w_46bdddb6) (fun _ h => h) rfl hin rfl (by decide +kernel) rfl rfl (Nat.le_of_ble_eq_true rfl) dX8_init_17 (fun H locs hO _ => ?_)
  have hO : cxO D b (n + 2) (va_up g3 k0 (.inr (8, [.int 0, .int 0, .int 0, .int 0, .ref (b + (n)), .ref (b + (n + 1)), .null, .null, .null, .int 0, .null, .null, .int 0, .int 0, .long 0]))) s H locs := hO
  obtain ⟨g4, hq4⟩ : ∃ x, x = va_up g3 (k0) (.inr (8, [.int 0, .int 0, .int 0, .int 0, .ref (b + (n)), .ref (b + (n + 1)), .null, .null, .null, .int 0, .null, .null, .int 0, .int 0, .long 0])) := ⟨_, rfl⟩
  rw [← hq4] at hO
  have Y0 : g4 (k0) = .inr (8, [.int 0, .int 0, .int 0, .int 0, .ref (b + (n)), .ref (b + (n + 1)), .null, .null, .null, .int 0, .null, .null, .int 0, .int 0, .long 0]) := by rw [hq4]; exact va_up_self _ _ _
  have Y1 : g4 (n) = .inl (cA 1, 64, .inr (.inl (fun _ => 0))) := by rw [hq4, va_up_ne _ _ (by omega)]; exact Y1
  have Y2 : g4 (n + 1) = .inl (cA 1, 8, .inr (.inl (fun _ => 0))) := by rw [hq4, va_up_ne _ _ (by omega)]; exact Y2
  have fr : ∀ j, j < n → j ≠ k0 → g4 j = g j := fun j h1 h2 => by rw [hq4, va_up_ne _ _ (by omega)]; try exact fr j h1 h2
  refine lv_aload_n hx hb dX8_init_20 rfl (lv_at hl 0 rfl) ?_
  refine lv_bipush (v := 13) hx hb dX8_init_21 (by decide) ?_
  refine cx_newa (atype := .int) (cy := cA 0) (a0 := (13, .inl (fun _ => 0))) hx hb (hgw _ w_d160d5ac) (hK.2 0 _ rfl).2 hO (fun _ => rfl) (by decide) rfl (by decide) (Nat.le_of_ble_eq_true rfl) (Nat.le_of_ble_eq_true rfl) dX8_init_23 (fun H hO => ?_)
  obtain ⟨g5, hq5⟩ : ∃ x, x = va_up g4 (n + 2) (.inl (cA 0, 13, .inl (fun _ => 0))) := ⟨_, rfl⟩
  rw [← hq5] at hO
  have Y3 : g5 (n + 2) = .inl (cA 0, 13, .inl (fun _ => 0)) := by rw [hq5]; exact va_up_self _ _ _
  have Y0 : g5 (k0) = .inr (8, [.int 0, .int 0, .int 0, .int 0, .ref (b + (n)), .ref (b + (n + 1)), .null, .null, .null, .int 0, .null, .null, .int 0, .int 0, .long 0]) := by rw [hq5, va_up_ne _ _ (by omega)]; exact Y0
  have Y1 : g5 (n) = .inl (cA 1, 64, .inr (.inl (fun _ => 0))) := by rw [hq5, va_up_ne _ _ (by omega)]; exact Y1
  have Y2 : g5 (n + 1) = .inl (cA 1, 8, .inr (.inl (fun _ => 0))) := by rw [hq5, va_up_ne _ _ (by omega)]; exact Y2
  have fr : ∀ j, j < n → j ≠ k0 → g5 j = g j := fun j h1 h2 => by rw [hq5, va_up_ne _ _ (by omega)]; try exact fr j h1 h2
  refine cx_putF (D := D) (cA := cA) (ci := 8) (v := .ref (b + (n + 2))) (ty := .array .int) (C := RX8) (T := TX8) (N := 15) hx hb hgw iwMF tyX8 tyX8_ok nmX8 hown hK hO (q0 := k0) (by omega) Y0 rfl 6 (by decide) (hgw _ w_e9c6df78) (fun _ h => h) rfl hin rfl (by decide +kernel) rfl rfl (Nat.le_of_ble_eq_true rfl) dX8_init_25 (fun H locs hO _ => ?_)
  have hO : cxO D b (n + 3) (va_up g5 k0 (.inr (8, [.int 0, .int 0, .int 0, .int 0, .ref (b + (n)), .ref (b + (n + 1)), .ref (b + (n + 2)), .null, .null, .int 0, .null, .null, .int 0, .int 0, .long 0]))) s H locs := hO
  obtain ⟨g6, hq6⟩ : ∃ x, x = va_up g5 (k0) (.inr (8, [.int 0, .int 0, .int 0, .int 0, .ref (b + (n)), .ref (b + (n + 1)), .ref (b + (n + 2)), .null, .null, .int 0, .null, .null, .int 0, .int 0, .long 0])) := ⟨_, rfl⟩
  rw [← hq6] at hO
  have Y0 : g6 (k0) = .inr (8, [.int 0, .int 0, .int 0, .int 0, .ref (b + (n)), .ref (b + (n + 1)), .ref (b + (n + 2)), .null, .null, .int 0, .null, .null, .int 0, .int 0, .long 0]) := by rw [hq6]; exact va_up_self _ _ _
  have Y1 : g6 (n) = .inl (cA 1, 64, .inr (.inl (fun _ => 0))) := by rw [hq6, va_up_ne _ _ (by omega)]; exact Y1
  have Y2 : g6 (n + 1) = .inl (cA 1, 8, .inr (.inl (fun _ => 0))) := by rw [hq6, va_up_ne _ _ (by omega)]; exact Y2
  have Y3 : g6 (n + 2) = .inl (cA 0, 13, .inl (fun _ => 0)) := by rw [hq6, va_up_ne _ _ (by omega)]; exact Y3
  have fr : ∀ j, j < n → j ≠ k0 → g6 j = g j := fun j h1 h2 => by rw [hq6, va_up_ne _ _ (by omega)]; try exact fr j h1 h2
  refine lv_aload_n hx hb dX8_init_28 rfl (lv_at hl 0 rfl) ?_
  refine lv_bipush (v := 13) hx hb dX8_init_29 (by decide) ?_
  refine cx_newa (atype := .long) (cy := cA 1) (a0 := (13, .inr (.inl (fun _ => 0)))) hx hb (hgw _ w_f2af499d) (hK.2 1 _ rfl).2 hO (fun _ => rfl) (by decide) rfl (by decide) (Nat.le_of_ble_eq_true rfl) (Nat.le_of_ble_eq_true rfl) dX8_init_31 (fun H hO => ?_)
  obtain ⟨g7, hq7⟩ : ∃ x, x = va_up g6 (n + 3) (.inl (cA 1, 13, .inr (.inl (fun _ => 0)))) := ⟨_, rfl⟩
  rw [← hq7] at hO
  have Y4 : g7 (n + 3) = .inl (cA 1, 13, .inr (.inl (fun _ => 0))) := by rw [hq7]; exact va_up_self _ _ _
  have Y0 : g7 (k0) = .inr (8, [.int 0, .int 0, .int 0, .int 0, .ref (b + (n)), .ref (b + (n + 1)), .ref (b + (n + 2)), .null, .null, .int 0, .null, .null, .int 0, .int 0, .long 0]) := by rw [hq7, va_up_ne _ _ (by omega)]; exact Y0
  have Y1 : g7 (n) = .inl (cA 1, 64, .inr (.inl (fun _ => 0))) := by rw [hq7, va_up_ne _ _ (by omega)]; exact Y1
  have Y2 : g7 (n + 1) = .inl (cA 1, 8, .inr (.inl (fun _ => 0))) := by rw [hq7, va_up_ne _ _ (by omega)]; exact Y2
  have Y3 : g7 (n + 2) = .inl (cA 0, 13, .inl (fun _ => 0)) := by rw [hq7, va_up_ne _ _ (by omega)]; exact Y3
  have fr : ∀ j, j < n → j ≠ k0 → g7 j = g j := fun j h1 h2 => by rw [hq7, va_up_ne _ _ (by omega)]; try exact fr j h1 h2
  refine cx_putF (D := D) (cA := cA) (ci := 8) (v := .ref (b + (n + 3))) (ty := .array .long) (C := RX8) (T := TX8) (N := 15) hx hb hgw iwMF tyX8 tyX8_ok nmX8 hown hK hO (q0 := k0) (by omega) Y0 rfl 7 (by decide) (hgw _ w_5700fb43) (fun _ h => h) rfl hin rfl (by decide +kernel) rfl rfl (Nat.le_of_ble_eq_true rfl) dX8_init_33 (fun H locs hO _ => ?_)
  have hO : cxO D b (n + 4) (va_up g7 k0 (.inr (8, [.int 0, .int 0, .int 0, .int 0, .ref (b + (n)), .ref (b + (n + 1)), .ref (b + (n + 2)), .ref (b + (n + 3)), .null, .int 0, .null, .null, .int 0, .int 0, .long 0]))) s H locs := hO
  obtain ⟨g8, hq8⟩ : ∃ x, x = va_up g7 (k0) (.inr (8, [.int 0, .int 0, .int 0, .int 0, .ref (b + (n)), .ref (b + (n + 1)), .ref (b + (n + 2)), .ref (b + (n + 3)), .null, .int 0, .null, .null, .int 0, .int 0, .long 0])) := ⟨_, rfl⟩
  rw [← hq8] at hO
  have Y0 : g8 (k0) = .inr (8, [.int 0, .int 0, .int 0, .int 0, .ref (b + (n)), .ref (b + (n + 1)), .ref (b + (n + 2)), .ref (b + (n + 3)), .null, .int 0, .null, .null, .int 0, .int 0, .long 0]) := by rw [hq8]; exact va_up_self _ _ _
  have Y1 : g8 (n) = .inl (cA 1, 64, .inr (.inl (fun _ => 0))) := by rw [hq8, va_up_ne _ _ (by omega)]; exact Y1
  have Y2 : g8 (n + 1) = .inl (cA 1, 8, .inr (.inl (fun _ => 0))) := by rw [hq8, va_up_ne _ _ (by omega)]; exact Y2
  have Y3 : g8 (n + 2) = .inl (cA 0, 13, .inl (fun _ => 0)) := by rw [hq8, va_up_ne _ _ (by omega)]; exact Y3
  have Y4 : g8 (n + 3) = .inl (cA 1, 13, .inr (.inl (fun _ => 0))) := by rw [hq8, va_up_ne _ _ (by omega)]; exact Y4
  have fr : ∀ j, j < n → j ≠ k0 → g8 j = g j := fun j h1 h2 => by rw [hq8, va_up_ne _ _ (by omega)]; try exact fr j h1 h2
  refine lv_aload_n hx hb dX8_init_36 rfl (lv_at hl 0 rfl) ?_
  refine lv_bipush (v := 13) hx hb dX8_init_37 (by decide) ?_
  refine cx_newA (cy := cA 5) hx hb hown (nm := "[J") (by decide) (hgw _ w_dad39111) (ao_use hN.2.2.2.2.2.2.2) (hK.2 5 _ rfl).2 hO (N' := 13) (by decide) rfl (by decide) (Nat.le_of_ble_eq_true rfl) (Nat.le_of_ble_eq_true rfl) dX8_init_39 (fun H hO => ?_)
  obtain ⟨g9, hq9⟩ : ∃ x, x = va_up g8 (n + 4) (.inl (cA 5, 13, .inr (.inr (.inr (.inr (fun _ => none)))))) := ⟨_, rfl⟩
  rw [← hq9] at hO
  have Y5 : g9 (n + 4) = .inl (cA 5, 13, .inr (.inr (.inr (.inr (fun _ => none))))) := by rw [hq9]; exact va_up_self _ _ _
  have Y0 : g9 (k0) = .inr (8, [.int 0, .int 0, .int 0, .int 0, .ref (b + (n)), .ref (b + (n + 1)), .ref (b + (n + 2)), .ref (b + (n + 3)), .null, .int 0, .null, .null, .int 0, .int 0, .long 0]) := by rw [hq9, va_up_ne _ _ (by omega)]; exact Y0
  have Y1 : g9 (n) = .inl (cA 1, 64, .inr (.inl (fun _ => 0))) := by rw [hq9, va_up_ne _ _ (by omega)]; exact Y1
  have Y2 : g9 (n + 1) = .inl (cA 1, 8, .inr (.inl (fun _ => 0))) := by rw [hq9, va_up_ne _ _ (by omega)]; exact Y2
  have Y3 : g9 (n + 2) = .inl (cA 0, 13, .inl (fun _ => 0)) := by rw [hq9, va_up_ne _ _ (by omega)]; exact Y3
  have Y4 : g9 (n + 3) = .inl (cA 1, 13, .inr (.inl (fun _ => 0))) := by rw [hq9, va_up_ne _ _ (by omega)]; exact Y4
  have fr : ∀ j, j < n → j ≠ k0 → g9 j = g j := fun j h1 h2 => by rw [hq9, va_up_ne _ _ (by omega)]; try exact fr j h1 h2
  refine cx_putF (D := D) (cA := cA) (ci := 8) (v := .ref (b + (n + 4))) (ty := .array (.array .long)) (C := RX8) (T := TX8) (N := 15) hx hb hgw iwMF tyX8 tyX8_ok nmX8 hown hK hO (q0 := k0) (by omega) Y0 rfl 8 (by decide) (hgw _ w_2acdb605) (fun _ h => h) rfl hin rfl (by decide +kernel) rfl rfl (Nat.le_of_ble_eq_true rfl) dX8_init_42 (fun H locs hO _ => ?_)
  have hO : cxO D b (n + 5) (va_up g9 k0 (.inr (8, [.int 0, .int 0, .int 0, .int 0, .ref (b + (n)), .ref (b + (n + 1)), .ref (b + (n + 2)), .ref (b + (n + 3)), .ref (b + (n + 4)), .int 0, .null, .null, .int 0, .int 0, .long 0]))) s H locs := hO
  obtain ⟨g10, hq10⟩ : ∃ x, x = va_up g9 (k0) (.inr (8, [.int 0, .int 0, .int 0, .int 0, .ref (b + (n)), .ref (b + (n + 1)), .ref (b + (n + 2)), .ref (b + (n + 3)), .ref (b + (n + 4)), .int 0, .null, .null, .int 0, .int 0, .long 0])) := ⟨_, rfl⟩
  rw [← hq10] at hO
  have Y0 : g10 (k0) = .inr (8, [.int 0, .int 0, .int 0, .int 0, .ref (b + (n)), .ref (b + (n + 1)), .ref (b + (n + 2)), .ref (b + (n + 3)), .ref (b + (n + 4)), .int 0, .null, .null, .int 0, .int 0, .long 0]) := by rw [hq10]; exact va_up_self _ _ _
  have Y1 : g10 (n) = .inl (cA 1, 64, .inr (.inl (fun _ => 0))) := by rw [hq10, va_up_ne _ _ (by omega)]; exact Y1
  have Y2 : g10 (n + 1) = .inl (cA 1, 8, .inr (.inl (fun _ => 0))) := by rw [hq10, va_up_ne _ _ (by omega)]; exact Y2
  have Y3 : g10 (n + 2) = .inl (cA 0, 13, .inl (fun _ => 0)) := by rw [hq10, va_up_ne _ _ (by omega)]; exact Y3
  have Y4 : g10 (n + 3) = .inl (cA 1, 13, .inr (.inl (fun _ => 0))) := by rw [hq10, va_up_ne _ _ (by omega)]; exact Y4
  have Y5 : g10 (n + 4) = .inl (cA 5, 13, .inr (.inr (.inr (.inr (fun _ => none))))) := by rw [hq10, va_up_ne _ _ (by omega)]; exact Y5
  have fr : ∀ j, j < n → j ≠ k0 → g10 j = g j := fun j h1 h2 => by rw [hq10, va_up_ne _ _ (by omega)]; try exact fr j h1 h2
  refine lv_aload_n hx hb dX8_init_45 rfl (lv_at hl 0 rfl) ?_
  refine lv_iconst (v := 4) hx hb dX8_init_46 (by decide) ?_
  refine cx_newa (atype := .int) (cy := cA 0) (a0 := (4, .inl (fun _ => 0))) hx hb (hgw _ w_d160d5ac) (hK.2 0 _ rfl).2 hO (fun _ => rfl) (by decide) rfl (by decide) (Nat.le_of_ble_eq_true rfl) (Nat.le_of_ble_eq_true rfl) dX8_init_47 (fun H hO => ?_)
  obtain ⟨g11, hq11⟩ : ∃ x, x = va_up g10 (n + 5) (.inl (cA 0, 4, .inl (fun _ => 0))) := ⟨_, rfl⟩
  rw [← hq11] at hO
  have Y6 : g11 (n + 5) = .inl (cA 0, 4, .inl (fun _ => 0)) := by rw [hq11]; exact va_up_self _ _ _
  have Y0 : g11 (k0) = .inr (8, [.int 0, .int 0, .int 0, .int 0, .ref (b + (n)), .ref (b + (n + 1)), .ref (b + (n + 2)), .ref (b + (n + 3)), .ref (b + (n + 4)), .int 0, .null, .null, .int 0, .int 0, .long 0]) := by rw [hq11, va_up_ne _ _ (by omega)]; exact Y0
  have Y1 : g11 (n) = .inl (cA 1, 64, .inr (.inl (fun _ => 0))) := by rw [hq11, va_up_ne _ _ (by omega)]; exact Y1
  have Y2 : g11 (n + 1) = .inl (cA 1, 8, .inr (.inl (fun _ => 0))) := by rw [hq11, va_up_ne _ _ (by omega)]; exact Y2
  have Y3 : g11 (n + 2) = .inl (cA 0, 13, .inl (fun _ => 0)) := by rw [hq11, va_up_ne _ _ (by omega)]; exact Y3
  have Y4 : g11 (n + 3) = .inl (cA 1, 13, .inr (.inl (fun _ => 0))) := by rw [hq11, va_up_ne _ _ (by omega)]; exact Y4
  have Y5 : g11 (n + 4) = .inl (cA 5, 13, .inr (.inr (.inr (.inr (fun _ => none))))) := by rw [hq11, va_up_ne _ _ (by omega)]; exact Y5
  have fr : ∀ j, j < n → j ≠ k0 → g11 j = g j := fun j h1 h2 => by rw [hq11, va_up_ne _ _ (by omega)]; try exact fr j h1 h2
  refine cx_putF (D := D) (cA := cA) (ci := 8) (v := .ref (b + (n + 5))) (ty := .array .int) (C := RX8) (T := TX8) (N := 15) hx hb hgw iwMF tyX8 tyX8_ok nmX8 hown hK hO (q0 := k0) (by omega) Y0 rfl 10 (by decide) (hgw _ w_b458d77a) (fun _ h => h) rfl hin rfl (by decide +kernel) rfl rfl (Nat.le_of_ble_eq_true rfl) dX8_init_49 (fun H locs hO _ => ?_)
  have hO : cxO D b (n + 6) (va_up g11 k0 (.inr (8, [.int 0, .int 0, .int 0, .int 0, .ref (b + (n)), .ref (b + (n + 1)), .ref (b + (n + 2)), .ref (b + (n + 3)), .ref (b + (n + 4)), .int 0, .ref (b + (n + 5)), .null, .int 0, .int 0, .long 0]))) s H locs := hO
  obtain ⟨g12, hq12⟩ : ∃ x, x = va_up g11 (k0) (.inr (8, [.int 0, .int 0, .int 0, .int 0, .ref (b + (n)), .ref (b + (n + 1)), .ref (b + (n + 2)), .ref (b + (n + 3)), .ref (b + (n + 4)), .int 0, .ref (b + (n + 5)), .null, .int 0, .int 0, .long 0])) := ⟨_, rfl⟩
  rw [← hq12] at hO
  have Y0 : g12 (k0) = .inr (8, [.int 0, .int 0, .int 0, .int 0, .ref (b + (n)), .ref (b + (n + 1)), .ref (b + (n + 2)), .ref (b + (n + 3)), .ref (b + (n + 4)), .int 0, .ref (b + (n + 5)), .null, .int 0, .int 0, .long 0]) := by rw [hq12]; exact va_up_self _ _ _
  have Y1 : g12 (n) = .inl (cA 1, 64, .inr (.inl (fun _ => 0))) := by rw [hq12, va_up_ne _ _ (by omega)]; exact Y1
  have Y2 : g12 (n + 1) = .inl (cA 1, 8, .inr (.inl (fun _ => 0))) := by rw [hq12, va_up_ne _ _ (by omega)]; exact Y2
  have Y3 : g12 (n + 2) = .inl (cA 0, 13, .inl (fun _ => 0)) := by rw [hq12, va_up_ne _ _ (by omega)]; exact Y3
  have Y4 : g12 (n + 3) = .inl (cA 1, 13, .inr (.inl (fun _ => 0))) := by rw [hq12, va_up_ne _ _ (by omega)]; exact Y4
  have Y5 : g12 (n + 4) = .inl (cA 5, 13, .inr (.inr (.inr (.inr (fun _ => none))))) := by rw [hq12, va_up_ne _ _ (by omega)]; exact Y5
  have Y6 : g12 (n + 5) = .inl (cA 0, 4, .inl (fun _ => 0)) := by rw [hq12, va_up_ne _ _ (by omega)]; exact Y6
  have fr : ∀ j, j < n → j ≠ k0 → g12 j = g j := fun j h1 h2 => by rw [hq12, va_up_ne _ _ (by omega)]; try exact fr j h1 h2
  refine lv_aload_n hx hb dX8_init_52 rfl (lv_at hl 0 rfl) ?_
  refine lv_iconst (v := 4) hx hb dX8_init_53 (by decide) ?_
  refine cx_newa (atype := .int) (cy := cA 0) (a0 := (4, .inl (fun _ => 0))) hx hb (hgw _ w_d160d5ac) (hK.2 0 _ rfl).2 hO (fun _ => rfl) (by decide) rfl (by decide) (Nat.le_of_ble_eq_true rfl) (Nat.le_of_ble_eq_true rfl) dX8_init_54 (fun H hO => ?_)
  obtain ⟨g13, hq13⟩ : ∃ x, x = va_up g12 (n + 6) (.inl (cA 0, 4, .inl (fun _ => 0))) := ⟨_, rfl⟩
  rw [← hq13] at hO
  have Y7 : g13 (n + 6) = .inl (cA 0, 4, .inl (fun _ => 0)) := by rw [hq13]; exact va_up_self _ _ _
  have Y0 : g13 (k0) = .inr (8, [.int 0, .int 0, .int 0, .int 0, .ref (b + (n)), .ref (b + (n + 1)), .ref (b + (n + 2)), .ref (b + (n + 3)), .ref (b + (n + 4)), .int 0, .ref (b + (n + 5)), .null, .int 0, .int 0, .long 0]) := by rw [hq13, va_up_ne _ _ (by omega)]; exact Y0
  have Y1 : g13 (n) = .inl (cA 1, 64, .inr (.inl (fun _ => 0))) := by rw [hq13, va_up_ne _ _ (by omega)]; exact Y1
  have Y2 : g13 (n + 1) = .inl (cA 1, 8, .inr (.inl (fun _ => 0))) := by rw [hq13, va_up_ne _ _ (by omega)]; exact Y2
  have Y3 : g13 (n + 2) = .inl (cA 0, 13, .inl (fun _ => 0)) := by rw [hq13, va_up_ne _ _ (by omega)]; exact Y3
  have Y4 : g13 (n + 3) = .inl (cA 1, 13, .inr (.inl (fun _ => 0))) := by rw [hq13, va_up_ne _ _ (by omega)]; exact Y4
  have Y5 : g13 (n + 4) = .inl (cA 5, 13, .inr (.inr (.inr (.inr (fun _ => none))))) := by rw [hq13, va_up_ne _ _ (by omega)]; exact Y5
  have Y6 : g13 (n + 5) = .inl (cA 0, 4, .inl (fun _ => 0)) := by rw [hq13, va_up_ne _ _ (by omega)]; exact Y6
  have fr : ∀ j, j < n → j ≠ k0 → g13 j = g j := fun j h1 h2 => by rw [hq13, va_up_ne _ _ (by omega)]; try exact fr j h1 h2
  refine cx_putF (D := D) (cA := cA) (ci := 8) (v := .ref (b + (n + 6))) (ty := .array .int) (C := RX8) (T := TX8) (N := 15) hx hb hgw iwMF tyX8 tyX8_ok nmX8 hown hK hO (q0 := k0) (by omega) Y0 rfl 11 (by decide) (hgw _ w_f5913638) (fun _ h => h) rfl hin rfl (by decide +kernel) rfl rfl (Nat.le_of_ble_eq_true rfl) dX8_init_56 (fun H locs hO _ => ?_)
  have hO : cxO D b (n + 7) (va_up g13 k0 (.inr (8, [.int 0, .int 0, .int 0, .int 0, .ref (b + (n)), .ref (b + (n + 1)), .ref (b + (n + 2)), .ref (b + (n + 3)), .ref (b + (n + 4)), .int 0, .ref (b + (n + 5)), .ref (b + (n + 6)), .int 0, .int 0, .long 0]))) s H locs := hO
  obtain ⟨g14, hq14⟩ : ∃ x, x = va_up g13 (k0) (.inr (8, [.int 0, .int 0, .int 0, .int 0, .ref (b + (n)), .ref (b + (n + 1)), .ref (b + (n + 2)), .ref (b + (n + 3)), .ref (b + (n + 4)), .int 0, .ref (b + (n + 5)), .ref (b + (n + 6)), .int 0, .int 0, .long 0])) := ⟨_, rfl⟩
  rw [← hq14] at hO
  have Y0 : g14 (k0) = .inr (8, [.int 0, .int 0, .int 0, .int 0, .ref (b + (n)), .ref (b + (n + 1)), .ref (b + (n + 2)), .ref (b + (n + 3)), .ref (b + (n + 4)), .int 0, .ref (b + (n + 5)), .ref (b + (n + 6)), .int 0, .int 0, .long 0]) := by rw [hq14]; exact va_up_self _ _ _
  have Y1 : g14 (n) = .inl (cA 1, 64, .inr (.inl (fun _ => 0))) := by rw [hq14, va_up_ne _ _ (by omega)]; exact Y1
  have Y2 : g14 (n + 1) = .inl (cA 1, 8, .inr (.inl (fun _ => 0))) := by rw [hq14, va_up_ne _ _ (by omega)]; exact Y2
  have Y3 : g14 (n + 2) = .inl (cA 0, 13, .inl (fun _ => 0)) := by rw [hq14, va_up_ne _ _ (by omega)]; exact Y3
  have Y4 : g14 (n + 3) = .inl (cA 1, 13, .inr (.inl (fun _ => 0))) := by rw [hq14, va_up_ne _ _ (by omega)]; exact Y4
  have Y5 : g14 (n + 4) = .inl (cA 5, 13, .inr (.inr (.inr (.inr (fun _ => none))))) := by rw [hq14, va_up_ne _ _ (by omega)]; exact Y5
  have Y6 : g14 (n + 5) = .inl (cA 0, 4, .inl (fun _ => 0)) := by rw [hq14, va_up_ne _ _ (by omega)]; exact Y6
  have Y7 : g14 (n + 6) = .inl (cA 0, 4, .inl (fun _ => 0)) := by rw [hq14, va_up_ne _ _ (by omega)]; exact Y7
  have fr : ∀ j, j < n → j ≠ k0 → g14 j = g j := fun j h1 h2 => by rw [hq14, va_up_ne _ _ (by omega)]; try exact fr j h1 h2
  exact cx_vret hx hb hr hlocks hO ⟨Y0, Y1, Y2, Y3, Y4, Y5, Y6, Y7, fr⟩ dX8_init_59
set_option maxHeartbeats 4000000 in
set_option maxRecDepth 100000 in
theorem cx_Mo_init (l : Launch) (D : va_G) (cA : Nat → ClassId) (b n k0 : Nat) (hk0 : k0 < n) (g : Nat → va_E) (Y0 : g k0 = .inr (9, [.int 0, .null, .null, .null, .null, .null, .null, .null, .null, .null, .int 0, .long 0, .int 0, .int 0, .int 0, .int 0, .int 0, .int 0, .null])) : Met l yX9_init (wv yX9_init cX9_init 1 none) ({ frames := 1, cells := 10, slots := 2531, locals := 12 }) (va_Pc [.ref (b + k0)] (cxU D cA b n g)) (cxQ D b (n + 10) (fun g2 => g2 (k0) = .inr (9, [.int 0, .ref (b + (n)), .ref (b + (n + 1)), .ref (b + (n + 2)), .ref (b + (n + 3)), .ref (b + (n + 4)), .ref (b + (n + 5)), .ref (b + (n + 6)), .ref (b + (n + 7)), .ref (b + (n + 8)), .int 0, .long 0, .int 0, .int 0, .int 0, .int 0, .int 0, .int 0, .ref (b + (n + 9))]) ∧ g2 (n) = .inl (cA 0, 1152, .inl (fun _ => 0)) ∧ g2 (n + 1) = .inl (cA 0, 1152, .inl (fun _ => 0)) ∧ g2 (n + 2) = .inl (cA 0, 48, .inl (fun _ => 0)) ∧ g2 (n + 3) = .inl (cA 2, 8, .inl (fun _ => 0)) ∧ g2 (n + 4) = .inl (cA 1, 64, .inr (.inl (fun _ => 0))) ∧ g2 (n + 5) = .inl (cA 1, 8, .inr (.inl (fun _ => 0))) ∧ g2 (n + 6) = .inl (cA 0, 8, .inl (fun _ => 0)) ∧ g2 (n + 7) = .inl (cA 0, 40, .inl (fun _ => 0)) ∧ g2 (n + 8) = .inl (cA 1, 40, .inr (.inl (fun _ => 0))) ∧ g2 (n + 9) = .inl (cA 6, 11, .inr (.inr (.inr (.inr (fun _ => none))))) ∧ ∀ j, j < n → j ≠ k0 → g2 j = g j)) 10 2531 (cxA b) := by
  refine Met.ofW (cc := cX9_init) (maxL := 1) (ret := none) (by decide) rfl ?_
  intro p e s m args below meth c s₁ B hml hv
  obtain ⟨rfl, hP, hz, hK, hN⟩ := hv
  have hx := B.exec
  have hb := B.bytes
  have hr := B.returns
  have hts := atoms_spec (ws := wv yX9_init cX9_init 1 none) B.pre
  have hown : s.vm.findClass RX9 = some m.cls := findClass_of_methodNamed B.named
  have hlocks := B.notSynchronized
  have hin : meth.name = "<init>" := (name_of_methodNamed B.named B.method).1
  have hO : cxO D b n g s s.heap [] := ⟨hP, va_S.rf, hz⟩
  have hl := lv_entry ([.ref (b + k0)]) (n := 1) (Nat.le_of_ble_eq_true rfl)
  rw [lg_entry_eq]
  generalize (lg_sl ([.ref (b + k0)]) ++ List.replicate (1 - (lg_sl ([.ref (b + k0)])).length) Slot.unset).toArray = ls at hl ⊢
  have hl : lv_has ls 1 [(0, .ref (b + k0))] := hl
  have hgw := fun (w : Cond) (h : w ∈ gwW) => hts w (List.mem_cons_of_mem _ h)
  have fr : ∀ j, j < n → j ≠ k0 → g j = g j := fun _ _ _ => rfl
  refine lv_aload_n hx hb dX9_init_0 rfl (lv_at hl 0 rfl) ?_
  refine W.objInit hx hb hown (hgw _ w_f9d69244) (hgw _ w_fba9d542) (hgw _ w_9febdb7e) rfl (by rw [hml]; exact hl.1) rfl dX9_init_1 (Nat.le_of_ble_eq_true rfl) (Nat.le_of_ble_eq_true rfl) ?_
  refine W.eq (g2 := F0 m 4 ls []) rfl ?_
  refine lv_aload_n hx hb dX9_init_4 rfl (lv_at hl 0 rfl) ?_
  refine lv_sipush (v := 1152) hx hb dX9_init_5 (by decide) ?_
  refine cx_newa (atype := .int) (cy := cA 0) (a0 := (1152, .inl (fun _ => 0))) hx hb (hgw _ w_d160d5ac) (hK.2 0 _ rfl).2 hO (fun _ => rfl) (by decide) rfl (by decide) (Nat.le_of_ble_eq_true rfl) (Nat.le_of_ble_eq_true rfl) dX9_init_8 (fun H hO => ?_)
  obtain ⟨g1, hq1⟩ : ∃ x, x = va_up g (n) (.inl (cA 0, 1152, .inl (fun _ => 0))) := ⟨_, rfl⟩
  rw [← hq1] at hO
  have Y1 : g1 (n) = .inl (cA 0, 1152, .inl (fun _ => 0)) := by rw [hq1]; exact va_up_self _ _ _
  have Y0 : g1 (k0) = .inr (9, [.int 0, .null, .null, .null, .null, .null, .null, .null, .null, .null, .int 0, .long 0, .int 0, .int 0, .int 0, .int 0, .int 0, .int 0, .null]) := by rw [hq1, va_up_ne _ _ (by omega)]; exact Y0
  have fr : ∀ j, j < n → j ≠ k0 → g1 j = g j := fun j h1 h2 => by rw [hq1, va_up_ne _ _ (by omega)]; try exact fr j h1 h2
  refine cx_putF (D := D) (cA := cA) (ci := 9) (v := .ref (b + (n))) (ty := .array .int) (C := RX9) (T := TX9) (N := 19) hx hb hgw iwMo tyX9 tyX9_ok nmX9 hown hK hO (q0 := k0) (by omega) Y0 rfl 1 (by decide) (hgw _ w_021ca238) (fun _ h => h) rfl hin rfl (by decide +kernel) rfl rfl (Nat.le_of_ble_eq_true rfl) dX9_init_10 (fun H locs hO _ => ?_)
  have hO : cxO D b (n + 1) (va_up g1 k0 (.inr (9, [.int 0, .ref (b + (n)), .null, .null, .null, .null, .null, .null, .null, .null, .int 0, .long 0, .int 0, .int 0, .int 0, .int 0, .int 0, .int 0, .null]))) s H locs := hO
  obtain ⟨g2, hq2⟩ : ∃ x, x = va_up g1 (k0) (.inr (9, [.int 0, .ref (b + (n)), .null, .null, .null, .null, .null, .null, .null, .null, .int 0, .long 0, .int 0, .int 0, .int 0, .int 0, .int 0, .int 0, .null])) := ⟨_, rfl⟩
  rw [← hq2] at hO
  have Y0 : g2 (k0) = .inr (9, [.int 0, .ref (b + (n)), .null, .null, .null, .null, .null, .null, .null, .null, .int 0, .long 0, .int 0, .int 0, .int 0, .int 0, .int 0, .int 0, .null]) := by rw [hq2]; exact va_up_self _ _ _
  have Y1 : g2 (n) = .inl (cA 0, 1152, .inl (fun _ => 0)) := by rw [hq2, va_up_ne _ _ (by omega)]; exact Y1
  have fr : ∀ j, j < n → j ≠ k0 → g2 j = g j := fun j h1 h2 => by rw [hq2, va_up_ne _ _ (by omega)]; try exact fr j h1 h2
  refine lv_aload_n hx hb dX9_init_13 rfl (lv_at hl 0 rfl) ?_
  refine lv_sipush (v := 1152) hx hb dX9_init_14 (by decide) ?_
  refine cx_newa (atype := .int) (cy := cA 0) (a0 := (1152, .inl (fun _ => 0))) hx hb (hgw _ w_d160d5ac) (hK.2 0 _ rfl).2 hO (fun _ => rfl) (by decide) rfl (by decide) (Nat.le_of_ble_eq_true rfl) (Nat.le_of_ble_eq_true rfl) dX9_init_17 (fun H hO => ?_)
  obtain ⟨g3, hq3⟩ : ∃ x, x = va_up g2 (n + 1) (.inl (cA 0, 1152, .inl (fun _ => 0))) := ⟨_, rfl⟩
  rw [← hq3] at hO
  have Y2 : g3 (n + 1) = .inl (cA 0, 1152, .inl (fun _ => 0)) := by rw [hq3]; exact va_up_self _ _ _
  have Y0 : g3 (k0) = .inr (9, [.int 0, .ref (b + (n)), .null, .null, .null, .null, .null, .null, .null, .null, .int 0, .long 0, .int 0, .int 0, .int 0, .int 0, .int 0, .int 0, .null]) := by rw [hq3, va_up_ne _ _ (by omega)]; exact Y0
  have Y1 : g3 (n) = .inl (cA 0, 1152, .inl (fun _ => 0)) := by rw [hq3, va_up_ne _ _ (by omega)]; exact Y1
  have fr : ∀ j, j < n → j ≠ k0 → g3 j = g j := fun j h1 h2 => by rw [hq3, va_up_ne _ _ (by omega)]; try exact fr j h1 h2
  refine cx_putF (D := D) (cA := cA) (ci := 9) (v := .ref (b + (n + 1))) (ty := .array .int) (C := RX9) (T := TX9) (N := 19) hx hb hgw iwMo tyX9 tyX9_ok nmX9 hown hK hO (q0 := k0) (by omega) Y0 rfl 2 (by decide) (hgw _ w_eb510d35) (fun _ h => h) rfl hin rfl (by decide +kernel) rfl rfl (Nat.le_of_ble_eq_true rfl) dX9_init_19 (fun H locs hO _ => ?_)
  have hO : cxO D b (n + 2) (va_up g3 k0 (.inr (9, [.int 0, .ref (b + (n)), .ref (b + (n + 1)), .null, .null, .null, .null, .null, .null, .null, .int 0, .long 0, .int 0, .int 0, .int 0, .int 0, .int 0, .int 0, .null]))) s H locs := hO
  obtain ⟨g4, hq4⟩ : ∃ x, x = va_up g3 (k0) (.inr (9, [.int 0, .ref (b + (n)), .ref (b + (n + 1)), .null, .null, .null, .null, .null, .null, .null, .int 0, .long 0, .int 0, .int 0, .int 0, .int 0, .int 0, .int 0, .null])) := ⟨_, rfl⟩
  rw [← hq4] at hO
  have Y0 : g4 (k0) = .inr (9, [.int 0, .ref (b + (n)), .ref (b + (n + 1)), .null, .null, .null, .null, .null, .null, .null, .int 0, .long 0, .int 0, .int 0, .int 0, .int 0, .int 0, .int 0, .null]) := by rw [hq4]; exact va_up_self _ _ _
  have Y1 : g4 (n) = .inl (cA 0, 1152, .inl (fun _ => 0)) := by rw [hq4, va_up_ne _ _ (by omega)]; exact Y1
  have Y2 : g4 (n + 1) = .inl (cA 0, 1152, .inl (fun _ => 0)) := by rw [hq4, va_up_ne _ _ (by omega)]; exact Y2
  have fr : ∀ j, j < n → j ≠ k0 → g4 j = g j := fun j h1 h2 => by rw [hq4, va_up_ne _ _ (by omega)]; try exact fr j h1 h2
  refine lv_aload_n hx hb dX9_init_22 rfl (lv_at hl 0 rfl) ?_
  refine lv_bipush (v := 48) hx hb dX9_init_23 (by decide) ?_
  refine cx_newa (atype := .int) (cy := cA 0) (a0 := (48, .inl (fun _ => 0))) hx hb (hgw _ w_d160d5ac) (hK.2 0 _ rfl).2 hO (fun _ => rfl) (by decide) rfl (by decide) (Nat.le_of_ble_eq_true rfl) (Nat.le_of_ble_eq_true rfl) dX9_init_25 (fun H hO => ?_)
  obtain ⟨g5, hq5⟩ : ∃ x, x = va_up g4 (n + 2) (.inl (cA 0, 48, .inl (fun _ => 0))) := ⟨_, rfl⟩
  rw [← hq5] at hO
  have Y3 : g5 (n + 2) = .inl (cA 0, 48, .inl (fun _ => 0)) := by rw [hq5]; exact va_up_self _ _ _
  have Y0 : g5 (k0) = .inr (9, [.int 0, .ref (b + (n)), .ref (b + (n + 1)), .null, .null, .null, .null, .null, .null, .null, .int 0, .long 0, .int 0, .int 0, .int 0, .int 0, .int 0, .int 0, .null]) := by rw [hq5, va_up_ne _ _ (by omega)]; exact Y0
  have Y1 : g5 (n) = .inl (cA 0, 1152, .inl (fun _ => 0)) := by rw [hq5, va_up_ne _ _ (by omega)]; exact Y1
  have Y2 : g5 (n + 1) = .inl (cA 0, 1152, .inl (fun _ => 0)) := by rw [hq5, va_up_ne _ _ (by omega)]; exact Y2
  have fr : ∀ j, j < n → j ≠ k0 → g5 j = g j := fun j h1 h2 => by rw [hq5, va_up_ne _ _ (by omega)]; try exact fr j h1 h2
  refine cx_putF (D := D) (cA := cA) (ci := 9) (v := .ref (b + (n + 2))) (ty := .array .int) (C := RX9) (T := TX9) (N := 19) hx hb hgw iwMo tyX9 tyX9_ok nmX9 hown hK hO (q0 := k0) (by omega) Y0 rfl 3 (by decide) (hgw _ w_18ab44c4) (fun _ h => h) rfl hin rfl (by decide +kernel) rfl rfl (Nat.le_of_ble_eq_true rfl) dX9_init_27 (fun H locs hO _ => ?_)
  have hO : cxO D b (n + 3) (va_up g5 k0 (.inr (9, [.int 0, .ref (b + (n)), .ref (b + (n + 1)), .ref (b + (n + 2)), .null, .null, .null, .null, .null, .null, .int 0, .long 0, .int 0, .int 0, .int 0, .int 0, .int 0, .int 0, .null]))) s H locs := hO
  obtain ⟨g6, hq6⟩ : ∃ x, x = va_up g5 (k0) (.inr (9, [.int 0, .ref (b + (n)), .ref (b + (n + 1)), .ref (b + (n + 2)), .null, .null, .null, .null, .null, .null, .int 0, .long 0, .int 0, .int 0, .int 0, .int 0, .int 0, .int 0, .null])) := ⟨_, rfl⟩
  rw [← hq6] at hO
  have Y0 : g6 (k0) = .inr (9, [.int 0, .ref (b + (n)), .ref (b + (n + 1)), .ref (b + (n + 2)), .null, .null, .null, .null, .null, .null, .int 0, .long 0, .int 0, .int 0, .int 0, .int 0, .int 0, .int 0, .null]) := by rw [hq6]; exact va_up_self _ _ _
  have Y1 : g6 (n) = .inl (cA 0, 1152, .inl (fun _ => 0)) := by rw [hq6, va_up_ne _ _ (by omega)]; exact Y1
  have Y2 : g6 (n + 1) = .inl (cA 0, 1152, .inl (fun _ => 0)) := by rw [hq6, va_up_ne _ _ (by omega)]; exact Y2
  have Y3 : g6 (n + 2) = .inl (cA 0, 48, .inl (fun _ => 0)) := by rw [hq6, va_up_ne _ _ (by omega)]; exact Y3
  have fr : ∀ j, j < n → j ≠ k0 → g6 j = g j := fun j h1 h2 => by rw [hq6, va_up_ne _ _ (by omega)]; try exact fr j h1 h2
  refine lv_aload_n hx hb dX9_init_30 rfl (lv_at hl 0 rfl) ?_
  refine lv_bipush (v := 8) hx hb dX9_init_31 (by decide) ?_
  refine cx_newa (atype := .boolean) (cy := cA 2) (a0 := (8, .inl (fun _ => 0))) hx hb (hgw _ w_3be30871) (hK.2 2 _ rfl).2 hO (fun _ => rfl) (by decide) rfl (by decide) (Nat.le_of_ble_eq_true rfl) (Nat.le_of_ble_eq_true rfl) dX9_init_33 (fun H hO => ?_)
  obtain ⟨g7, hq7⟩ : ∃ x, x = va_up g6 (n + 3) (.inl (cA 2, 8, .inl (fun _ => 0))) := ⟨_, rfl⟩
  rw [← hq7] at hO
  have Y4 : g7 (n + 3) = .inl (cA 2, 8, .inl (fun _ => 0)) := by rw [hq7]; exact va_up_self _ _ _
  have Y0 : g7 (k0) = .inr (9, [.int 0, .ref (b + (n)), .ref (b + (n + 1)), .ref (b + (n + 2)), .null, .null, .null, .null, .null, .null, .int 0, .long 0, .int 0, .int 0, .int 0, .int 0, .int 0, .int 0, .null]) := by rw [hq7, va_up_ne _ _ (by omega)]; exact Y0
  have Y1 : g7 (n) = .inl (cA 0, 1152, .inl (fun _ => 0)) := by rw [hq7, va_up_ne _ _ (by omega)]; exact Y1
  have Y2 : g7 (n + 1) = .inl (cA 0, 1152, .inl (fun _ => 0)) := by rw [hq7, va_up_ne _ _ (by omega)]; exact Y2
  have Y3 : g7 (n + 2) = .inl (cA 0, 48, .inl (fun _ => 0)) := by rw [hq7, va_up_ne _ _ (by omega)]; exact Y3
  have fr : ∀ j, j < n → j ≠ k0 → g7 j = g j := fun j h1 h2 => by rw [hq7, va_up_ne _ _ (by omega)]; try exact fr j h1 h2
  refine cx_putF (D := D) (cA := cA) (ci := 9) (v := .ref (b + (n + 3))) (ty := .array .boolean) (C := RX9) (T := TX9) (N := 19) hx hb hgw iwMo tyX9 tyX9_ok nmX9 hown hK hO (q0 := k0) (by omega) Y0 rfl 4 (by decide) (hgw _ w_efb03767) (fun _ h => h) rfl hin rfl (by decide +kernel) rfl rfl (Nat.le_of_ble_eq_true rfl) dX9_init_35 (fun H locs hO _ => ?_)
  have hO : cxO D b (n + 4) (va_up g7 k0 (.inr (9, [.int 0, .ref (b + (n)), .ref (b + (n + 1)), .ref (b + (n + 2)), .ref (b + (n + 3)), .null, .null, .null, .null, .null, .int 0, .long 0, .int 0, .int 0, .int 0, .int 0, .int 0, .int 0, .null]))) s H locs := hO
  obtain ⟨g8, hq8⟩ : ∃ x, x = va_up g7 (k0) (.inr (9, [.int 0, .ref (b + (n)), .ref (b + (n + 1)), .ref (b + (n + 2)), .ref (b + (n + 3)), .null, .null, .null, .null, .null, .int 0, .long 0, .int 0, .int 0, .int 0, .int 0, .int 0, .int 0, .null])) := ⟨_, rfl⟩
  rw [← hq8] at hO
  have Y0 : g8 (k0) = .inr (9, [.int 0, .ref (b + (n)), .ref (b + (n + 1)), .ref (b + (n + 2)), .ref (b + (n + 3)), .null, .null, .null, .null, .null, .int 0, .long 0, .int 0, .int 0, .int 0, .int 0, .int 0, .int 0, .null]) := by rw [hq8]; exact va_up_self _ _ _
  have Y1 : g8 (n) = .inl (cA 0, 1152, .inl (fun _ => 0)) := by rw [hq8, va_up_ne _ _ (by omega)]; exact Y1
  have Y2 : g8 (n + 1) = .inl (cA 0, 1152, .inl (fun _ => 0)) := by rw [hq8, va_up_ne _ _ (by omega)]; exact Y2
  have Y3 : g8 (n + 2) = .inl (cA 0, 48, .inl (fun _ => 0)) := by rw [hq8, va_up_ne _ _ (by omega)]; exact Y3
  have Y4 : g8 (n + 3) = .inl (cA 2, 8, .inl (fun _ => 0)) := by rw [hq8, va_up_ne _ _ (by omega)]; exact Y4
  have fr : ∀ j, j < n → j ≠ k0 → g8 j = g j := fun j h1 h2 => by rw [hq8, va_up_ne _ _ (by omega)]; try exact fr j h1 h2
  refine lv_aload_n hx hb dX9_init_38 rfl (lv_at hl 0 rfl) ?_
  refine lv_bipush (v := 64) hx hb dX9_init_39 (by decide) ?_
  refine cx_newa (atype := .long) (cy := cA 1) (a0 := (64, .inr (.inl (fun _ => 0)))) hx hb (hgw _ w_f2af499d) (hK.2 1 _ rfl).2 hO (fun _ => rfl) (by decide) rfl (by decide) (Nat.le_of_ble_eq_true rfl) (Nat.le_of_ble_eq_true rfl) dX9_init_41 (fun H hO => ?_)
  obtain ⟨g9, hq9⟩ : ∃ x, x = va_up g8 (n + 4) (.inl (cA 1, 64, .inr (.inl (fun _ => 0)))) := ⟨_, rfl⟩
  rw [← hq9] at hO
  have Y5 : g9 (n + 4) = .inl (cA 1, 64, .inr (.inl (fun _ => 0))) := by rw [hq9]; exact va_up_self _ _ _
  have Y0 : g9 (k0) = .inr (9, [.int 0, .ref (b + (n)), .ref (b + (n + 1)), .ref (b + (n + 2)), .ref (b + (n + 3)), .null, .null, .null, .null, .null, .int 0, .long 0, .int 0, .int 0, .int 0, .int 0, .int 0, .int 0, .null]) := by rw [hq9, va_up_ne _ _ (by omega)]; exact Y0
  have Y1 : g9 (n) = .inl (cA 0, 1152, .inl (fun _ => 0)) := by rw [hq9, va_up_ne _ _ (by omega)]; exact Y1
  have Y2 : g9 (n + 1) = .inl (cA 0, 1152, .inl (fun _ => 0)) := by rw [hq9, va_up_ne _ _ (by omega)]; exact Y2
  have Y3 : g9 (n + 2) = .inl (cA 0, 48, .inl (fun _ => 0)) := by rw [hq9, va_up_ne _ _ (by omega)]; exact Y3
  have Y4 : g9 (n + 3) = .inl (cA 2, 8, .inl (fun _ => 0)) := by rw [hq9, va_up_ne _ _ (by omega)]; exact Y4
  have fr : ∀ j, j < n → j ≠ k0 → g9 j = g j := fun j h1 h2 => by rw [hq9, va_up_ne _ _ (by omega)]; try exact fr j h1 h2
  refine cx_putF (D := D) (cA := cA) (ci := 9) (v := .ref (b + (n + 4))) (ty := .array .long) (C := RX9) (T := TX9) (N := 19) hx hb hgw iwMo tyX9 tyX9_ok nmX9 hown hK hO (q0 := k0) (by omega) Y0 rfl 5 (by decide) (hgw _ w_3c9d41c6) (fun _ h => h) rfl hin rfl (by decide +kernel) rfl rfl (Nat.le_of_ble_eq_true rfl) dX9_init_43 (fun H locs hO _ => ?_)
  have hO : cxO D b (n + 5) (va_up g9 k0 (.inr (9, [.int 0, .ref (b + (n)), .ref (b + (n + 1)), .ref (b + (n + 2)), .ref (b + (n + 3)), .ref (b + (n + 4)), .null, .null, .null, .null, .int 0, .long 0, .int 0, .int 0, .int 0, .int 0, .int 0, .int 0, .null]))) s H locs := hO
  obtain ⟨g10, hq10⟩ : ∃ x, x = va_up g9 (k0) (.inr (9, [.int 0, .ref (b + (n)), .ref (b + (n + 1)), .ref (b + (n + 2)), .ref (b + (n + 3)), .ref (b + (n + 4)), .null, .null, .null, .null, .int 0, .long 0, .int 0, .int 0, .int 0, .int 0, .int 0, .int 0, .null])) := ⟨_, rfl⟩
  rw [← hq10] at hO
  have Y0 : g10 (k0) = .inr (9, [.int 0, .ref (b + (n)), .ref (b + (n + 1)), .ref (b + (n + 2)), .ref (b + (n + 3)), .ref (b + (n + 4)), .null, .null, .null, .null, .int 0, .long 0, .int 0, .int 0, .int 0, .int 0, .int 0, .int 0, .null]) := by rw [hq10]; exact va_up_self _ _ _
  have Y1 : g10 (n) = .inl (cA 0, 1152, .inl (fun _ => 0)) := by rw [hq10, va_up_ne _ _ (by omega)]; exact Y1
  have Y2 : g10 (n + 1) = .inl (cA 0, 1152, .inl (fun _ => 0)) := by rw [hq10, va_up_ne _ _ (by omega)]; exact Y2
  have Y3 : g10 (n + 2) = .inl (cA 0, 48, .inl (fun _ => 0)) := by rw [hq10, va_up_ne _ _ (by omega)]; exact Y3
  have Y4 : g10 (n + 3) = .inl (cA 2, 8, .inl (fun _ => 0)) := by rw [hq10, va_up_ne _ _ (by omega)]; exact Y4
  have Y5 : g10 (n + 4) = .inl (cA 1, 64, .inr (.inl (fun _ => 0))) := by rw [hq10, va_up_ne _ _ (by omega)]; exact Y5
  have fr : ∀ j, j < n → j ≠ k0 → g10 j = g j := fun j h1 h2 => by rw [hq10, va_up_ne _ _ (by omega)]; try exact fr j h1 h2
  refine lv_aload_n hx hb dX9_init_46 rfl (lv_at hl 0 rfl) ?_
  refine lv_bipush (v := 8) hx hb dX9_init_47 (by decide) ?_
  refine cx_newa (atype := .long) (cy := cA 1) (a0 := (8, .inr (.inl (fun _ => 0)))) hx hb (hgw _ w_f2af499d) (hK.2 1 _ rfl).2 hO (fun _ => rfl) (by decide) rfl (by decide) (Nat.le_of_ble_eq_true rfl) (Nat.le_of_ble_eq_true rfl) dX9_init_49 (fun H hO => ?_)
  obtain ⟨g11, hq11⟩ : ∃ x, x = va_up g10 (n + 5) (.inl (cA 1, 8, .inr (.inl (fun _ => 0)))) := ⟨_, rfl⟩
  rw [← hq11] at hO
  have Y6 : g11 (n + 5) = .inl (cA 1, 8, .inr (.inl (fun _ => 0))) := by rw [hq11]; exact va_up_self _ _ _
  have Y0 : g11 (k0) = .inr (9, [.int 0, .ref (b + (n)), .ref (b + (n + 1)), .ref (b + (n + 2)), .ref (b + (n + 3)), .ref (b + (n + 4)), .null, .null, .null, .null, .int 0, .long 0, .int 0, .int 0, .int 0, .int 0, .int 0, .int 0, .null]) := by rw [hq11, va_up_ne _ _ (by omega)]; exact Y0
  have Y1 : g11 (n) = .inl (cA 0, 1152, .inl (fun _ => 0)) := by rw [hq11, va_up_ne _ _ (by omega)]; exact Y1
  have Y2 : g11 (n + 1) = .inl (cA 0, 1152, .inl (fun _ => 0)) := by rw [hq11, va_up_ne _ _ (by omega)]; exact Y2
  have Y3 : g11 (n + 2) = .inl (cA 0, 48, .inl (fun _ => 0)) := by rw [hq11, va_up_ne _ _ (by omega)]; exact Y3
  have Y4 : g11 (n + 3) = .inl (cA 2, 8, .inl (fun _ => 0)) := by rw [hq11, va_up_ne _ _ (by omega)]; exact Y4
  have Y5 : g11 (n + 4) = .inl (cA 1, 64, .inr (.inl (fun _ => 0))) := by rw [hq11, va_up_ne _ _ (by omega)]; exact Y5
  have fr : ∀ j, j < n → j ≠ k0 → g11 j = g j := fun j h1 h2 => by rw [hq11, va_up_ne _ _ (by omega)]; try exact fr j h1 h2
  refine cx_putF (D := D) (cA := cA) (ci := 9) (v := .ref (b + (n + 5))) (ty := .array .long) (C := RX9) (T := TX9) (N := 19) hx hb hgw iwMo tyX9 tyX9_ok nmX9 hown hK hO (q0 := k0) (by omega) Y0 rfl 6 (by decide) (hgw _ w_84119660) (fun _ h => h) rfl hin rfl (by decide +kernel) rfl rfl (Nat.le_of_ble_eq_true rfl) dX9_init_51 (fun H locs hO _ => ?_)
  have hO : cxO D b (n + 6) (va_up g11 k0 (.inr (9, [.int 0, .ref (b + (n)), .ref (b + (n + 1)), .ref (b + (n + 2)), .ref (b + (n + 3)), .ref (b + (n + 4)), .ref (b + (n + 5)), .null, .null, .null, .int 0, .long 0, .int 0, .int 0, .int 0, .int 0, .int 0, .int 0, .null]))) s H locs := hO
  obtain ⟨g12, hq12⟩ : ∃ x, x = va_up g11 (k0) (.inr (9, [.int 0, .ref (b + (n)), .ref (b + (n + 1)), .ref (b + (n + 2)), .ref (b + (n + 3)), .ref (b + (n + 4)), .ref (b + (n + 5)), .null, .null, .null, .int 0, .long 0, .int 0, .int 0, .int 0, .int 0, .int 0, .int 0, .null])) := ⟨_, rfl⟩
  rw [← hq12] at hO
  have Y0 : g12 (k0) = .inr (9, [.int 0, .ref (b + (n)), .ref (b + (n + 1)), .ref (b + (n + 2)), .ref (b + (n + 3)), .ref (b + (n + 4)), .ref (b + (n + 5)), .null, .null, .null, .int 0, .long 0, .int 0, .int 0, .int 0, .int 0, .int 0, .int 0, .null]) := by rw [hq12]; exact va_up_self _ _ _
  have Y1 : g12 (n) = .inl (cA 0, 1152, .inl (fun _ => 0)) := by rw [hq12, va_up_ne _ _ (by omega)]; exact Y1
  have Y2 : g12 (n + 1) = .inl (cA 0, 1152, .inl (fun _ => 0)) := by rw [hq12, va_up_ne _ _ (by omega)]; exact Y2
  have Y3 : g12 (n + 2) = .inl (cA 0, 48, .inl (fun _ => 0)) := by rw [hq12, va_up_ne _ _ (by omega)]; exact Y3
  have Y4 : g12 (n + 3) = .inl (cA 2, 8, .inl (fun _ => 0)) := by rw [hq12, va_up_ne _ _ (by omega)]; exact Y4
  have Y5 : g12 (n + 4) = .inl (cA 1, 64, .inr (.inl (fun _ => 0))) := by rw [hq12, va_up_ne _ _ (by omega)]; exact Y5
  have Y6 : g12 (n + 5) = .inl (cA 1, 8, .inr (.inl (fun _ => 0))) := by rw [hq12, va_up_ne _ _ (by omega)]; exact Y6
  have fr : ∀ j, j < n → j ≠ k0 → g12 j = g j := fun j h1 h2 => by rw [hq12, va_up_ne _ _ (by omega)]; try exact fr j h1 h2
  refine lv_aload_n hx hb dX9_init_54 rfl (lv_at hl 0 rfl) ?_
  refine lv_bipush (v := 8) hx hb dX9_init_55 (by decide) ?_
  refine cx_newa (atype := .int) (cy := cA 0) (a0 := (8, .inl (fun _ => 0))) hx hb (hgw _ w_d160d5ac) (hK.2 0 _ rfl).2 hO (fun _ => rfl) (by decide) rfl (by decide) (Nat.le_of_ble_eq_true rfl) (Nat.le_of_ble_eq_true rfl) dX9_init_57 (fun H hO => ?_)
  obtain ⟨g13, hq13⟩ : ∃ x, x = va_up g12 (n + 6) (.inl (cA 0, 8, .inl (fun _ => 0))) := ⟨_, rfl⟩
  rw [← hq13] at hO
  have Y7 : g13 (n + 6) = .inl (cA 0, 8, .inl (fun _ => 0)) := by rw [hq13]; exact va_up_self _ _ _
  have Y0 : g13 (k0) = .inr (9, [.int 0, .ref (b + (n)), .ref (b + (n + 1)), .ref (b + (n + 2)), .ref (b + (n + 3)), .ref (b + (n + 4)), .ref (b + (n + 5)), .null, .null, .null, .int 0, .long 0, .int 0, .int 0, .int 0, .int 0, .int 0, .int 0, .null]) := by rw [hq13, va_up_ne _ _ (by omega)]; exact Y0
  have Y1 : g13 (n) = .inl (cA 0, 1152, .inl (fun _ => 0)) := by rw [hq13, va_up_ne _ _ (by omega)]; exact Y1
  have Y2 : g13 (n + 1) = .inl (cA 0, 1152, .inl (fun _ => 0)) := by rw [hq13, va_up_ne _ _ (by omega)]; exact Y2
  have Y3 : g13 (n + 2) = .inl (cA 0, 48, .inl (fun _ => 0)) := by rw [hq13, va_up_ne _ _ (by omega)]; exact Y3
  have Y4 : g13 (n + 3) = .inl (cA 2, 8, .inl (fun _ => 0)) := by rw [hq13, va_up_ne _ _ (by omega)]; exact Y4
  have Y5 : g13 (n + 4) = .inl (cA 1, 64, .inr (.inl (fun _ => 0))) := by rw [hq13, va_up_ne _ _ (by omega)]; exact Y5
  have Y6 : g13 (n + 5) = .inl (cA 1, 8, .inr (.inl (fun _ => 0))) := by rw [hq13, va_up_ne _ _ (by omega)]; exact Y6
  have fr : ∀ j, j < n → j ≠ k0 → g13 j = g j := fun j h1 h2 => by rw [hq13, va_up_ne _ _ (by omega)]; try exact fr j h1 h2
  refine cx_putF (D := D) (cA := cA) (ci := 9) (v := .ref (b + (n + 6))) (ty := .array .int) (C := RX9) (T := TX9) (N := 19) hx hb hgw iwMo tyX9 tyX9_ok nmX9 hown hK hO (q0 := k0) (by omega) Y0 rfl 7 (by decide) (hgw _ w_9377dda0) (fun _ h => h) rfl hin rfl (by decide +kernel) rfl rfl (Nat.le_of_ble_eq_true rfl) dX9_init_59 (fun H locs hO _ => ?_)
  have hO : cxO D b (n + 7) (va_up g13 k0 (.inr (9, [.int 0, .ref (b + (n)), .ref (b + (n + 1)), .ref (b + (n + 2)), .ref (b + (n + 3)), .ref (b + (n + 4)), .ref (b + (n + 5)), .ref (b + (n + 6)), .null, .null, .int 0, .long 0, .int 0, .int 0, .int 0, .int 0, .int 0, .int 0, .null]))) s H locs := hO
  obtain ⟨g14, hq14⟩ : ∃ x, x = va_up g13 (k0) (.inr (9, [.int 0, .ref (b + (n)), .ref (b + (n + 1)), .ref (b + (n + 2)), .ref (b + (n + 3)), .ref (b + (n + 4)), .ref (b + (n + 5)), .ref (b + (n + 6)), .null, .null, .int 0, .long 0, .int 0, .int 0, .int 0, .int 0, .int 0, .int 0, .null])) := ⟨_, rfl⟩
  rw [← hq14] at hO
  have Y0 : g14 (k0) = .inr (9, [.int 0, .ref (b + (n)), .ref (b + (n + 1)), .ref (b + (n + 2)), .ref (b + (n + 3)), .ref (b + (n + 4)), .ref (b + (n + 5)), .ref (b + (n + 6)), .null, .null, .int 0, .long 0, .int 0, .int 0, .int 0, .int 0, .int 0, .int 0, .null]) := by rw [hq14]; exact va_up_self _ _ _
  have Y1 : g14 (n) = .inl (cA 0, 1152, .inl (fun _ => 0)) := by rw [hq14, va_up_ne _ _ (by omega)]; exact Y1
  have Y2 : g14 (n + 1) = .inl (cA 0, 1152, .inl (fun _ => 0)) := by rw [hq14, va_up_ne _ _ (by omega)]; exact Y2
  have Y3 : g14 (n + 2) = .inl (cA 0, 48, .inl (fun _ => 0)) := by rw [hq14, va_up_ne _ _ (by omega)]; exact Y3
  have Y4 : g14 (n + 3) = .inl (cA 2, 8, .inl (fun _ => 0)) := by rw [hq14, va_up_ne _ _ (by omega)]; exact Y4
  have Y5 : g14 (n + 4) = .inl (cA 1, 64, .inr (.inl (fun _ => 0))) := by rw [hq14, va_up_ne _ _ (by omega)]; exact Y5
  have Y6 : g14 (n + 5) = .inl (cA 1, 8, .inr (.inl (fun _ => 0))) := by rw [hq14, va_up_ne _ _ (by omega)]; exact Y6
  have Y7 : g14 (n + 6) = .inl (cA 0, 8, .inl (fun _ => 0)) := by rw [hq14, va_up_ne _ _ (by omega)]; exact Y7
  have fr : ∀ j, j < n → j ≠ k0 → g14 j = g j := fun j h1 h2 => by rw [hq14, va_up_ne _ _ (by omega)]; try exact fr j h1 h2
  refine lv_aload_n hx hb dX9_init_62 rfl (lv_at hl 0 rfl) ?_
  refine lv_bipush (v := 40) hx hb dX9_init_63 (by decide) ?_
  refine cx_newa (atype := .int) (cy := cA 0) (a0 := (40, .inl (fun _ => 0))) hx hb (hgw _ w_d160d5ac) (hK.2 0 _ rfl).2 hO (fun _ => rfl) (by decide) rfl (by decide) (Nat.le_of_ble_eq_true rfl) (Nat.le_of_ble_eq_true rfl) dX9_init_65 (fun H hO => ?_)
  obtain ⟨g15, hq15⟩ : ∃ x, x = va_up g14 (n + 7) (.inl (cA 0, 40, .inl (fun _ => 0))) := ⟨_, rfl⟩
  rw [← hq15] at hO
  have Y8 : g15 (n + 7) = .inl (cA 0, 40, .inl (fun _ => 0)) := by rw [hq15]; exact va_up_self _ _ _
  have Y0 : g15 (k0) = .inr (9, [.int 0, .ref (b + (n)), .ref (b + (n + 1)), .ref (b + (n + 2)), .ref (b + (n + 3)), .ref (b + (n + 4)), .ref (b + (n + 5)), .ref (b + (n + 6)), .null, .null, .int 0, .long 0, .int 0, .int 0, .int 0, .int 0, .int 0, .int 0, .null]) := by rw [hq15, va_up_ne _ _ (by omega)]; exact Y0
  have Y1 : g15 (n) = .inl (cA 0, 1152, .inl (fun _ => 0)) := by rw [hq15, va_up_ne _ _ (by omega)]; exact Y1
  have Y2 : g15 (n + 1) = .inl (cA 0, 1152, .inl (fun _ => 0)) := by rw [hq15, va_up_ne _ _ (by omega)]; exact Y2
  have Y3 : g15 (n + 2) = .inl (cA 0, 48, .inl (fun _ => 0)) := by rw [hq15, va_up_ne _ _ (by omega)]; exact Y3
  have Y4 : g15 (n + 3) = .inl (cA 2, 8, .inl (fun _ => 0)) := by rw [hq15, va_up_ne _ _ (by omega)]; exact Y4
  have Y5 : g15 (n + 4) = .inl (cA 1, 64, .inr (.inl (fun _ => 0))) := by rw [hq15, va_up_ne _ _ (by omega)]; exact Y5
  have Y6 : g15 (n + 5) = .inl (cA 1, 8, .inr (.inl (fun _ => 0))) := by rw [hq15, va_up_ne _ _ (by omega)]; exact Y6
  have Y7 : g15 (n + 6) = .inl (cA 0, 8, .inl (fun _ => 0)) := by rw [hq15, va_up_ne _ _ (by omega)]; exact Y7
  have fr : ∀ j, j < n → j ≠ k0 → g15 j = g j := fun j h1 h2 => by rw [hq15, va_up_ne _ _ (by omega)]; try exact fr j h1 h2
  refine cx_putF (D := D) (cA := cA) (ci := 9) (v := .ref (b + (n + 7))) (ty := .array .int) (C := RX9) (T := TX9) (N := 19) hx hb hgw iwMo tyX9 tyX9_ok nmX9 hown hK hO (q0 := k0) (by omega) Y0 rfl 8 (by decide) (hgw _ w_4baf838d) (fun _ h => h) rfl hin rfl (by decide +kernel) rfl rfl (Nat.le_of_ble_eq_true rfl) dX9_init_67 (fun H locs hO _ => ?_)
  have hO : cxO D b (n + 8) (va_up g15 k0 (.inr (9, [.int 0, .ref (b + (n)), .ref (b + (n + 1)), .ref (b + (n + 2)), .ref (b + (n + 3)), .ref (b + (n + 4)), .ref (b + (n + 5)), .ref (b + (n + 6)), .ref (b + (n + 7)), .null, .int 0, .long 0, .int 0, .int 0, .int 0, .int 0, .int 0, .int 0, .null]))) s H locs := hO
  obtain ⟨g16, hq16⟩ : ∃ x, x = va_up g15 (k0) (.inr (9, [.int 0, .ref (b + (n)), .ref (b + (n + 1)), .ref (b + (n + 2)), .ref (b + (n + 3)), .ref (b + (n + 4)), .ref (b + (n + 5)), .ref (b + (n + 6)), .ref (b + (n + 7)), .null, .int 0, .long 0, .int 0, .int 0, .int 0, .int 0, .int 0, .int 0, .null])) := ⟨_, rfl⟩
  rw [← hq16] at hO
  have Y0 : g16 (k0) = .inr (9, [.int 0, .ref (b + (n)), .ref (b + (n + 1)), .ref (b + (n + 2)), .ref (b + (n + 3)), .ref (b + (n + 4)), .ref (b + (n + 5)), .ref (b + (n + 6)), .ref (b + (n + 7)), .null, .int 0, .long 0, .int 0, .int 0, .int 0, .int 0, .int 0, .int 0, .null]) := by rw [hq16]; exact va_up_self _ _ _
  have Y1 : g16 (n) = .inl (cA 0, 1152, .inl (fun _ => 0)) := by rw [hq16, va_up_ne _ _ (by omega)]; exact Y1
  have Y2 : g16 (n + 1) = .inl (cA 0, 1152, .inl (fun _ => 0)) := by rw [hq16, va_up_ne _ _ (by omega)]; exact Y2
  have Y3 : g16 (n + 2) = .inl (cA 0, 48, .inl (fun _ => 0)) := by rw [hq16, va_up_ne _ _ (by omega)]; exact Y3
  have Y4 : g16 (n + 3) = .inl (cA 2, 8, .inl (fun _ => 0)) := by rw [hq16, va_up_ne _ _ (by omega)]; exact Y4
  have Y5 : g16 (n + 4) = .inl (cA 1, 64, .inr (.inl (fun _ => 0))) := by rw [hq16, va_up_ne _ _ (by omega)]; exact Y5
  have Y6 : g16 (n + 5) = .inl (cA 1, 8, .inr (.inl (fun _ => 0))) := by rw [hq16, va_up_ne _ _ (by omega)]; exact Y6
  have Y7 : g16 (n + 6) = .inl (cA 0, 8, .inl (fun _ => 0)) := by rw [hq16, va_up_ne _ _ (by omega)]; exact Y7
  have Y8 : g16 (n + 7) = .inl (cA 0, 40, .inl (fun _ => 0)) := by rw [hq16, va_up_ne _ _ (by omega)]; exact Y8
  have fr : ∀ j, j < n → j ≠ k0 → g16 j = g j := fun j h1 h2 => by rw [hq16, va_up_ne _ _ (by omega)]; try exact fr j h1 h2
  refine lv_aload_n hx hb dX9_init_70 rfl (lv_at hl 0 rfl) ?_
  refine lv_bipush (v := 40) hx hb dX9_init_71 (by decide) ?_
  refine cx_newa (atype := .long) (cy := cA 1) (a0 := (40, .inr (.inl (fun _ => 0)))) hx hb (hgw _ w_f2af499d) (hK.2 1 _ rfl).2 hO (fun _ => rfl) (by decide) rfl (by decide) (Nat.le_of_ble_eq_true rfl) (Nat.le_of_ble_eq_true rfl) dX9_init_73 (fun H hO => ?_)
  obtain ⟨g17, hq17⟩ : ∃ x, x = va_up g16 (n + 8) (.inl (cA 1, 40, .inr (.inl (fun _ => 0)))) := ⟨_, rfl⟩
  rw [← hq17] at hO
  have Y9 : g17 (n + 8) = .inl (cA 1, 40, .inr (.inl (fun _ => 0))) := by rw [hq17]; exact va_up_self _ _ _
  have Y0 : g17 (k0) = .inr (9, [.int 0, .ref (b + (n)), .ref (b + (n + 1)), .ref (b + (n + 2)), .ref (b + (n + 3)), .ref (b + (n + 4)), .ref (b + (n + 5)), .ref (b + (n + 6)), .ref (b + (n + 7)), .null, .int 0, .long 0, .int 0, .int 0, .int 0, .int 0, .int 0, .int 0, .null]) := by rw [hq17, va_up_ne _ _ (by omega)]; exact Y0
  have Y1 : g17 (n) = .inl (cA 0, 1152, .inl (fun _ => 0)) := by rw [hq17, va_up_ne _ _ (by omega)]; exact Y1
  have Y2 : g17 (n + 1) = .inl (cA 0, 1152, .inl (fun _ => 0)) := by rw [hq17, va_up_ne _ _ (by omega)]; exact Y2
  have Y3 : g17 (n + 2) = .inl (cA 0, 48, .inl (fun _ => 0)) := by rw [hq17, va_up_ne _ _ (by omega)]; exact Y3
  have Y4 : g17 (n + 3) = .inl (cA 2, 8, .inl (fun _ => 0)) := by rw [hq17, va_up_ne _ _ (by omega)]; exact Y4
  have Y5 : g17 (n + 4) = .inl (cA 1, 64, .inr (.inl (fun _ => 0))) := by rw [hq17, va_up_ne _ _ (by omega)]; exact Y5
  have Y6 : g17 (n + 5) = .inl (cA 1, 8, .inr (.inl (fun _ => 0))) := by rw [hq17, va_up_ne _ _ (by omega)]; exact Y6
  have Y7 : g17 (n + 6) = .inl (cA 0, 8, .inl (fun _ => 0)) := by rw [hq17, va_up_ne _ _ (by omega)]; exact Y7
  have Y8 : g17 (n + 7) = .inl (cA 0, 40, .inl (fun _ => 0)) := by rw [hq17, va_up_ne _ _ (by omega)]; exact Y8
  have fr : ∀ j, j < n → j ≠ k0 → g17 j = g j := fun j h1 h2 => by rw [hq17, va_up_ne _ _ (by omega)]; try exact fr j h1 h2
  refine cx_putF (D := D) (cA := cA) (ci := 9) (v := .ref (b + (n + 8))) (ty := .array .long) (C := RX9) (T := TX9) (N := 19) hx hb hgw iwMo tyX9 tyX9_ok nmX9 hown hK hO (q0 := k0) (by omega) Y0 rfl 9 (by decide) (hgw _ w_041da35b) (fun _ h => h) rfl hin rfl (by decide +kernel) rfl rfl (Nat.le_of_ble_eq_true rfl) dX9_init_75 (fun H locs hO _ => ?_)
  have hO : cxO D b (n + 9) (va_up g17 k0 (.inr (9, [.int 0, .ref (b + (n)), .ref (b + (n + 1)), .ref (b + (n + 2)), .ref (b + (n + 3)), .ref (b + (n + 4)), .ref (b + (n + 5)), .ref (b + (n + 6)), .ref (b + (n + 7)), .ref (b + (n + 8)), .int 0, .long 0, .int 0, .int 0, .int 0, .int 0, .int 0, .int 0, .null]))) s H locs := hO
  obtain ⟨g18, hq18⟩ : ∃ x, x = va_up g17 (k0) (.inr (9, [.int 0, .ref (b + (n)), .ref (b + (n + 1)), .ref (b + (n + 2)), .ref (b + (n + 3)), .ref (b + (n + 4)), .ref (b + (n + 5)), .ref (b + (n + 6)), .ref (b + (n + 7)), .ref (b + (n + 8)), .int 0, .long 0, .int 0, .int 0, .int 0, .int 0, .int 0, .int 0, .null])) := ⟨_, rfl⟩
  rw [← hq18] at hO
  have Y0 : g18 (k0) = .inr (9, [.int 0, .ref (b + (n)), .ref (b + (n + 1)), .ref (b + (n + 2)), .ref (b + (n + 3)), .ref (b + (n + 4)), .ref (b + (n + 5)), .ref (b + (n + 6)), .ref (b + (n + 7)), .ref (b + (n + 8)), .int 0, .long 0, .int 0, .int 0, .int 0, .int 0, .int 0, .int 0, .null]) := by rw [hq18]; exact va_up_self _ _ _
  have Y1 : g18 (n) = .inl (cA 0, 1152, .inl (fun _ => 0)) := by rw [hq18, va_up_ne _ _ (by omega)]; exact Y1
  have Y2 : g18 (n + 1) = .inl (cA 0, 1152, .inl (fun _ => 0)) := by rw [hq18, va_up_ne _ _ (by omega)]; exact Y2
  have Y3 : g18 (n + 2) = .inl (cA 0, 48, .inl (fun _ => 0)) := by rw [hq18, va_up_ne _ _ (by omega)]; exact Y3
  have Y4 : g18 (n + 3) = .inl (cA 2, 8, .inl (fun _ => 0)) := by rw [hq18, va_up_ne _ _ (by omega)]; exact Y4
  have Y5 : g18 (n + 4) = .inl (cA 1, 64, .inr (.inl (fun _ => 0))) := by rw [hq18, va_up_ne _ _ (by omega)]; exact Y5
  have Y6 : g18 (n + 5) = .inl (cA 1, 8, .inr (.inl (fun _ => 0))) := by rw [hq18, va_up_ne _ _ (by omega)]; exact Y6
  have Y7 : g18 (n + 6) = .inl (cA 0, 8, .inl (fun _ => 0)) := by rw [hq18, va_up_ne _ _ (by omega)]; exact Y7
  have Y8 : g18 (n + 7) = .inl (cA 0, 40, .inl (fun _ => 0)) := by rw [hq18, va_up_ne _ _ (by omega)]; exact Y8
  have Y9 : g18 (n + 8) = .inl (cA 1, 40, .inr (.inl (fun _ => 0))) := by rw [hq18, va_up_ne _ _ (by omega)]; exact Y9
  have fr : ∀ j, j < n → j ≠ k0 → g18 j = g j := fun j h1 h2 => by rw [hq18, va_up_ne _ _ (by omega)]; try exact fr j h1 h2
  refine lv_aload_n hx hb dX9_init_78 rfl (lv_at hl 0 rfl) ?_
  refine lv_bipush (v := 11) hx hb dX9_init_79 (by decide) ?_
  refine cx_newq (cy := cA 6) hx hb hown (hgw _ w_0045b4ad) (ao_use hN.2.2.2.2.2.2.1) (cx_ao (hK.2 6 _ rfl).2) hO (N' := 11) (by decide) rfl (by decide) (Nat.le_of_ble_eq_true rfl) (Nat.le_of_ble_eq_true rfl) dX9_init_81 (fun H hO => ?_)
  obtain ⟨g19, hq19⟩ : ∃ x, x = va_up g18 (n + 9) (.inl (cA 6, 11, .inr (.inr (.inr (.inr (fun _ => none)))))) := ⟨_, rfl⟩
  rw [← hq19] at hO
  have Y10 : g19 (n + 9) = .inl (cA 6, 11, .inr (.inr (.inr (.inr (fun _ => none))))) := by rw [hq19]; exact va_up_self _ _ _
  have Y0 : g19 (k0) = .inr (9, [.int 0, .ref (b + (n)), .ref (b + (n + 1)), .ref (b + (n + 2)), .ref (b + (n + 3)), .ref (b + (n + 4)), .ref (b + (n + 5)), .ref (b + (n + 6)), .ref (b + (n + 7)), .ref (b + (n + 8)), .int 0, .long 0, .int 0, .int 0, .int 0, .int 0, .int 0, .int 0, .null]) := by rw [hq19, va_up_ne _ _ (by omega)]; exact Y0
  have Y1 : g19 (n) = .inl (cA 0, 1152, .inl (fun _ => 0)) := by rw [hq19, va_up_ne _ _ (by omega)]; exact Y1
  have Y2 : g19 (n + 1) = .inl (cA 0, 1152, .inl (fun _ => 0)) := by rw [hq19, va_up_ne _ _ (by omega)]; exact Y2
  have Y3 : g19 (n + 2) = .inl (cA 0, 48, .inl (fun _ => 0)) := by rw [hq19, va_up_ne _ _ (by omega)]; exact Y3
  have Y4 : g19 (n + 3) = .inl (cA 2, 8, .inl (fun _ => 0)) := by rw [hq19, va_up_ne _ _ (by omega)]; exact Y4
  have Y5 : g19 (n + 4) = .inl (cA 1, 64, .inr (.inl (fun _ => 0))) := by rw [hq19, va_up_ne _ _ (by omega)]; exact Y5
  have Y6 : g19 (n + 5) = .inl (cA 1, 8, .inr (.inl (fun _ => 0))) := by rw [hq19, va_up_ne _ _ (by omega)]; exact Y6
  have Y7 : g19 (n + 6) = .inl (cA 0, 8, .inl (fun _ => 0)) := by rw [hq19, va_up_ne _ _ (by omega)]; exact Y7
  have Y8 : g19 (n + 7) = .inl (cA 0, 40, .inl (fun _ => 0)) := by rw [hq19, va_up_ne _ _ (by omega)]; exact Y8
  have Y9 : g19 (n + 8) = .inl (cA 1, 40, .inr (.inl (fun _ => 0))) := by rw [hq19, va_up_ne _ _ (by omega)]; exact Y9
  have fr : ∀ j, j < n → j ≠ k0 → g19 j = g j := fun j h1 h2 => by rw [hq19, va_up_ne _ _ (by omega)]; try exact fr j h1 h2
  refine cx_putF (D := D) (cA := cA) (ci := 9) (v := .ref (b + (n + 9))) (ty := .array (.object "CallWalkerModel$Frame")) (C := RX9) (T := TX9) (N := 19) hx hb hgw iwMo tyX9 tyX9_ok nmX9 hown hK hO (q0 := k0) (by omega) Y0 rfl 18 (by decide) (hgw _ w_23dc5b2c) (fun _ h => h) rfl hin rfl (by decide +kernel) rfl rfl (Nat.le_of_ble_eq_true rfl) dX9_init_84 (fun H locs hO _ => ?_)
  have hO : cxO D b (n + 10) (va_up g19 k0 (.inr (9, [.int 0, .ref (b + (n)), .ref (b + (n + 1)), .ref (b + (n + 2)), .ref (b + (n + 3)), .ref (b + (n + 4)), .ref (b + (n + 5)), .ref (b + (n + 6)), .ref (b + (n + 7)), .ref (b + (n + 8)), .int 0, .long 0, .int 0, .int 0, .int 0, .int 0, .int 0, .int 0, .ref (b + (n + 9))]))) s H locs := hO
  obtain ⟨g20, hq20⟩ : ∃ x, x = va_up g19 (k0) (.inr (9, [.int 0, .ref (b + (n)), .ref (b + (n + 1)), .ref (b + (n + 2)), .ref (b + (n + 3)), .ref (b + (n + 4)), .ref (b + (n + 5)), .ref (b + (n + 6)), .ref (b + (n + 7)), .ref (b + (n + 8)), .int 0, .long 0, .int 0, .int 0, .int 0, .int 0, .int 0, .int 0, .ref (b + (n + 9))])) := ⟨_, rfl⟩
  rw [← hq20] at hO
  have Y0 : g20 (k0) = .inr (9, [.int 0, .ref (b + (n)), .ref (b + (n + 1)), .ref (b + (n + 2)), .ref (b + (n + 3)), .ref (b + (n + 4)), .ref (b + (n + 5)), .ref (b + (n + 6)), .ref (b + (n + 7)), .ref (b + (n + 8)), .int 0, .long 0, .int 0, .int 0, .int 0, .int 0, .int 0, .int 0, .ref (b + (n + 9))]) := by rw [hq20]; exact va_up_self _ _ _
  have Y1 : g20 (n) = .inl (cA 0, 1152, .inl (fun _ => 0)) := by rw [hq20, va_up_ne _ _ (by omega)]; exact Y1
  have Y2 : g20 (n + 1) = .inl (cA 0, 1152, .inl (fun _ => 0)) := by rw [hq20, va_up_ne _ _ (by omega)]; exact Y2
  have Y3 : g20 (n + 2) = .inl (cA 0, 48, .inl (fun _ => 0)) := by rw [hq20, va_up_ne _ _ (by omega)]; exact Y3
  have Y4 : g20 (n + 3) = .inl (cA 2, 8, .inl (fun _ => 0)) := by rw [hq20, va_up_ne _ _ (by omega)]; exact Y4
  have Y5 : g20 (n + 4) = .inl (cA 1, 64, .inr (.inl (fun _ => 0))) := by rw [hq20, va_up_ne _ _ (by omega)]; exact Y5
  have Y6 : g20 (n + 5) = .inl (cA 1, 8, .inr (.inl (fun _ => 0))) := by rw [hq20, va_up_ne _ _ (by omega)]; exact Y6
  have Y7 : g20 (n + 6) = .inl (cA 0, 8, .inl (fun _ => 0)) := by rw [hq20, va_up_ne _ _ (by omega)]; exact Y7
  have Y8 : g20 (n + 7) = .inl (cA 0, 40, .inl (fun _ => 0)) := by rw [hq20, va_up_ne _ _ (by omega)]; exact Y8
  have Y9 : g20 (n + 8) = .inl (cA 1, 40, .inr (.inl (fun _ => 0))) := by rw [hq20, va_up_ne _ _ (by omega)]; exact Y9
  have Y10 : g20 (n + 9) = .inl (cA 6, 11, .inr (.inr (.inr (.inr (fun _ => none))))) := by rw [hq20, va_up_ne _ _ (by omega)]; exact Y10
  have fr : ∀ j, j < n → j ≠ k0 → g20 j = g j := fun j h1 h2 => by rw [hq20, va_up_ne _ _ (by omega)]; try exact fr j h1 h2
  exact cx_vret hx hb hr hlocks hO ⟨Y0, Y1, Y2, Y3, Y4, Y5, Y6, Y7, Y8, Y9, Y10, fr⟩ dX9_init_87
