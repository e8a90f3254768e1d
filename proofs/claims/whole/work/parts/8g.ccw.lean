set_option maxRecDepth 100000 in
theorem w_7cb1a586 : Cond.methodLink RX7 1 objectInit ∈ gwW := gw_at 50 rfl rfl
set_option maxRecDepth 100000 in
theorem w_014fd769 : Cond.classLink RX7 7 RX1 ∈ gwW := gw_at 53 rfl rfl
set_option maxRecDepth 100000 in
theorem w_f3320347 : Cond.instantiable RX1 2 ∈ gwW := gw_at 54 rfl rfl
set_option maxRecDepth 100000 in
theorem w_9f9763c0 : Cond.code yX1_init cX1_init 2 none ∈ gwW := gw_at 57 rfl rfl
set_option maxRecDepth 100000 in
theorem w_6688cf42 : Cond.methodLink RX7 9 yX1_init ∈ gwW := gw_at 55 rfl rfl
set_option maxRecDepth 100000 in
theorem w_892477bd : Cond.instanceMethod yX1_init ∈ gwW := gw_at 56 rfl rfl
set_option maxRecDepth 100000 in
theorem w_1f8fdd17 : Cond.classLink RX7 16 RX3 ∈ gwW := gw_at 92 rfl rfl
set_option maxRecDepth 100000 in
theorem w_aaf7952e : Cond.instantiable RX3 8 ∈ gwW := gw_at 93 rfl rfl
set_option maxRecDepth 100000 in
theorem w_59ffa7f2 : Cond.code yX3_init cX3_init 1 none ∈ gwW := gw_at 96 rfl rfl
set_option maxRecDepth 100000 in
theorem w_43acb9c0 : Cond.instanceMethod yX3_init ∈ gwW := gw_at 95 rfl rfl
set_option maxRecDepth 100000 in
theorem w_bfa8b346 : Cond.classLink RX7 23 RX6 ∈ gwW := gw_at 134 rfl rfl
set_option maxRecDepth 100000 in
theorem w_90614593 : Cond.instantiable RX6 7 ∈ gwW := gw_at 135 rfl rfl
set_option maxRecDepth 100000 in
theorem w_0a961088 : Cond.code yX6_init cX6_init 4 none ∈ gwW := gw_at 138 rfl rfl
set_option maxRecDepth 100000 in
theorem w_b2a462a2 : Cond.methodLink RX7 25 yX6_init ∈ gwW := gw_at 136 rfl rfl
set_option maxRecDepth 100000 in
theorem w_7a84360a : Cond.instanceMethod yX6_init ∈ gwW := gw_at 137 rfl rfl
/-- the class's object when it is new: its cells from b on -/
def cwI0 (cA : Nat → ClassId) (b : Nat) (g2 : Nat → va_E) : Prop := g2 0 = .inr (7, [.ref (b + 1), .ref (b + 148), .ref (b + 176)]) ∧ (∃ gB gx : Nat → va_E, cx_BookI cA b 2 1 gx 48 gB ∧ ∀ j, j < 148 → j ≠ 0 → g2 j = gB j) ∧ (∃ gl : Nat → va_E, (gl (148) = .inr (3, [.ref (b + (149)), .ref (b + (150)), .ref (b + (151)), .ref (b + (152)), .int 0, .ref (b + (153)), .ref (b + (164)), .ref (b + (175))]) ∧ gl (149) = .inl (cA 1, 64, .inr (.inl (fun _ => 0))) ∧ gl (150) = .inl (cA 1, 8, .inr (.inl (fun _ => 0))) ∧ gl (151) = .inl (cA 0, 40, .inl (fun _ => 0)) ∧ gl (152) = .inl (cA 1, 40, .inr (.inl (fun _ => 0))) ∧ gl (153) = .inl (cA 5, 10, .inr (.inr (.inr (.inr (fun i => if i < 10 then some (b + (153) + 1 + i) else none))))) ∧ gl (164) = .inl (cA 5, 10, .inr (.inr (.inr (.inr (fun i => if i < 10 then some (b + (164) + 1 + i) else none))))) ∧ gl (175) = .inl (cA 0, 10, .inl (fun _ => 0)) ∧ (∀ j, j < 10 → gl (154 + j) = .inl (cA 1, 64, .inr (.inl (fun _ => 0)))) ∧ (∀ j, j < 10 → gl (165 + j) = .inl (cA 1, 8, .inr (.inl (fun _ => 0))))) ∧ ∀ j, j < 176 → j ≠ 0 → g2 j = gl j) ∧ ∃ gW gx : Nat → va_E, cx_WalkI cA b 177 176 1 148 4 gx 10 gW ∧ ∀ j, j < 269 → j ≠ 0 → g2 j = gW j
set_option maxHeartbeats 4000000 in
set_option maxRecDepth 100000 in
theorem cx_CW_init (l : Launch) (D : va_G) (cA : Nat → ClassId) (b : Nat) (g : Nat → va_E) (Y0 : g 0 = .inr (7, [.null, .null, .null])) : Met l yX7_init (wv yX7_init cX7_init 1 none) ({ frames := 4, cells := 268, slots := 5968, locals := 77 }) (va_Pc [.ref (b + 0)] (cxU D cA b 1 g)) (cxQ D b 269 (cwI0 cA b)) 268 5968 (cxA b) := by
  refine Met.ofW (cc := cX7_init) (maxL := 1) (ret := none) (by decide) rfl ?_
  intro p e s m args below meth c s₁ B hml hv
  obtain ⟨rfl, hP, hz, hK, hN⟩ := hv
  have hx := B.exec
  have hb := B.bytes
  have hr := B.returns
  have hts := atoms_spec (ws := wv yX7_init cX7_init 1 none) B.pre
  have hown : s.vm.findClass RX7 = some m.cls := findClass_of_methodNamed B.named
  have hlocks := B.notSynchronized
  have hin : meth.name = "<init>" := (name_of_methodNamed B.named B.method).1
  have hO : cxO D b 1 g s s.heap [] := ⟨hP, va_S.rf, hz⟩
  have hl := lv_entry ([.ref (b + 0)]) (n := 1) (Nat.le_of_ble_eq_true rfl)
  rw [lg_entry_eq]
  generalize (lg_sl ([.ref (b + 0)]) ++ List.replicate (1 - (lg_sl ([.ref (b + 0)])).length) Slot.unset).toArray = ls at hl ⊢
  have hl : lv_has ls 1 [(0, .ref (b + 0))] := hl
  have hgw := fun (w : Cond) (h : w ∈ gwW) => hts w (List.mem_cons_of_mem _ h)
  refine lv_aload_n hx hb dX7_init_0 rfl (lv_at hl 0 rfl) ?_
  refine W.objInit hx hb hown (hgw _ w_7cb1a586) (hgw _ w_fba9d542) (hgw _ w_9febdb7e) rfl (by rw [hml]; exact hl.1) rfl dX7_init_1 (Nat.le_of_ble_eq_true rfl) (Nat.le_of_ble_eq_true rfl) ?_
  refine W.eq (g2 := F0 m 4 ls []) rfl ?_
  refine lv_aload_n hx hb dX7_init_4 rfl (lv_at hl 0 rfl) ?_
  refine cx_new (ci := 1) (fs := [.null, .null]) (C := RX1) (T := TX1) (N := 2) hx hb hgw iwBook tyX1 tyX1_ok hown (hgw _ w_014fd769) (hgw _ w_f3320347) (hgw _ w_df4c496e) hK hO rfl (fun j hj => by rcases (show j = 0 ∨ j = 1 by omega) with rfl | rfl <;> rfl) (Nat.le_of_ble_eq_true rfl) (Nat.le_of_ble_eq_true rfl) dX7_init_5 (fun H hO => ?_)
  obtain ⟨g1, qg1⟩ : ∃ x, x = va_up g 1 (.inr (1, [.null, .null])) := ⟨_, rfl⟩
  rw [← qg1] at hO
  have hO : cxO D b 2 g1 s H _ := hO
  have Ng1 : g1 1 = .inr (1, [.null, .null]) := by rw [qg1]; exact va_up_self _ _ _
  have fg1 : ∀ j, j ≠ 1 → g1 j = g j := fun j h => by rw [qg1, va_up_ne _ _ h]
  have Y0 : g1 0 = .inr (7, [.null, .null, .null]) := by rw [fg1 _ (by omega)]; exact Y0
  refine lv_dup hx hb dX7_init_8 rfl ?_
  refine cx_callv (va_runI (As := []) (rest := [.ref (b + 1), .ref (b + 0)]) ⟨hx, hb, hml, hown, hts⟩ (cx_Book_init l D cA b 2 1 (by omega) _ Ng1) (cwI 0 hts (gw_N w_9f9763c0) rfl rfl rfl (hgw _ w_df4c496e) (hgw _ w_6688cf42) (hgw _ w_892477bd) rfl (by decide +kernel) ⟨Nat.le_of_ble_eq_true rfl, Nat.le_of_ble_eq_true rfl⟩) (cx_preS hK hN hO) rfl rfl hl.1 rfl (lv_room (Nat.le_of_ble_eq_true rfl)) dX7_init_9 ⟨Nat.le_of_ble_eq_true rfl, Nat.le_of_ble_eq_true rfl⟩) hO (fun g2 H locs hFg2 hO => ?_)
  have Y0 : g2 0 = .inr (7, [.null, .null, .null]) := by rw [hFg2.2.2.2.2 0 (by omega) (by omega)]; exact Y0
  refine cx_putF (D := D) (cA := cA) (ci := 7) (v := .ref (b + 1)) (ty := .object "CallWalker$Book") (C := RX7) (T := TX7) (N := 3) hx hb hgw iwCW tyX7 tyX7_ok nmX7 hown hK hO (q0 := 0) (by omega) Y0 rfl 0 (by decide) (hgw _ w_7a3df1ba) (fun _ h => h) rfl hin rfl (by decide +kernel) rfl rfl (Nat.le_of_ble_eq_true rfl) dX7_init_12 (fun H locs hO _ => ?_)
  have hO : cxO D b 148 (va_up g2 0 (.inr (7, [.ref (b + 1), .null, .null]))) s H locs := hO
  obtain ⟨g3, qg3⟩ : ∃ x, x = va_up g2 0 (.inr (7, [.ref (b + 1), .null, .null])) := ⟨_, rfl⟩
  rw [← qg3] at hO
  have Y0 : g3 0 = .inr (7, [.ref (b + 1), .null, .null]) := by rw [qg3]; exact va_up_self _ _ _
  have fg3 : ∀ j, j ≠ 0 → g3 j = g2 j := fun j h => by rw [qg3, va_up_ne _ _ h]
  have B0 : cx_BookI cA b 2 1 g1 48 g2 := hFg2
  refine lv_aload_n hx hb dX7_init_15 rfl (lv_at hl 0 rfl) ?_
  refine cx_new (ci := 3) (fs := [.null, .null, .null, .null, .int 0, .null, .null, .null]) (C := RX3) (T := TX3) (N := 8) hx hb hgw iwLedger tyX3 tyX3_ok hown (hgw _ w_1f8fdd17) (hgw _ w_aaf7952e) (hgw _ w_7f12e8e2) hK hO rfl (fun j hj => by rcases (show j = 0 ∨ j = 1 ∨ j = 2 ∨ j = 3 ∨ j = 4 ∨ j = 5 ∨ j = 6 ∨ j = 7 by omega) with rfl | rfl | rfl | rfl | rfl | rfl | rfl | rfl <;> rfl) (Nat.le_of_ble_eq_true rfl) (Nat.le_of_ble_eq_true rfl) dX7_init_16 (fun H hO => ?_)
  obtain ⟨g4, qg4⟩ : ∃ x, x = va_up g3 148 (.inr (3, [.null, .null, .null, .null, .int 0, .null, .null, .null])) := ⟨_, rfl⟩
  rw [← qg4] at hO
  have hO : cxO D b 149 g4 s H _ := hO
  have Ng4 : g4 148 = .inr (3, [.null, .null, .null, .null, .int 0, .null, .null, .null]) := by rw [qg4]; exact va_up_self _ _ _
  have fg4 : ∀ j, j ≠ 148 → g4 j = g3 j := fun j h => by rw [qg4, va_up_ne _ _ h]
  have Y0 : g4 0 = .inr (7, [.ref (b + 1), .null, .null]) := by rw [fg4 _ (by omega)]; exact Y0
  refine lv_dup hx hb dX7_init_19 rfl ?_
  refine cx_callv (va_runIN (As := []) (rest := [.ref (b + 148), .ref (b + 0)]) ⟨hx, hb, hml, hown, hts⟩ (cx_Ledger_init l D cA b 149 148 (by omega) _ Ng4) ⟨va_cnB 0 hts (gw_N w_59ffa7f2) rfl rfl rfl hN.1 (hgw _ w_7f12e8e2) (by decide +kernel) ⟨Nat.le_of_ble_eq_true rfl, Nat.le_of_ble_eq_true rfl⟩, rfl, hgw _ w_43acb9c0⟩ (cx_preS hK hN hO) rfl rfl hl.1 rfl (lv_room (Nat.le_of_ble_eq_true rfl)) dX7_init_20 ⟨Nat.le_of_ble_eq_true rfl, Nat.le_of_ble_eq_true rfl⟩) hO (fun g5 H locs hFg5 hO => ?_)
  obtain ⟨l0, l1, l2, l3, l4, l5, l6, l7, l8, l9, lfr⟩ := hFg5
  have Y0 : g5 0 = .inr (7, [.ref (b + 1), .null, .null]) := by rw [lfr 0 (by omega) (by omega)]; exact Y0
  refine cx_putF (D := D) (cA := cA) (ci := 7) (v := .ref (b + 148)) (ty := .object "CallWalker$Ledger") (C := RX7) (T := TX7) (N := 3) hx hb hgw iwCW tyX7 tyX7_ok nmX7 hown hK hO (q0 := 0) (by omega) Y0 rfl 1 (by decide) (hgw _ w_3dcf37e4) (fun _ h => h) rfl hin rfl (by decide +kernel) rfl rfl (Nat.le_of_ble_eq_true rfl) dX7_init_23 (fun H locs hO _ => ?_)
  have hO : cxO D b 176 (va_up g5 0 (.inr (7, [.ref (b + 1), .ref (b + 148), .null]))) s H locs := hO
  obtain ⟨g6, qg6⟩ : ∃ x, x = va_up g5 0 (.inr (7, [.ref (b + 1), .ref (b + 148), .null])) := ⟨_, rfl⟩
  rw [← qg6] at hO
  have Y0 : g6 0 = .inr (7, [.ref (b + 1), .ref (b + 148), .null]) := by rw [qg6]; exact va_up_self _ _ _
  have fg6 : ∀ j, j ≠ 0 → g6 j = g5 j := fun j h => by rw [qg6, va_up_ne _ _ h]
  refine lv_aload_n hx hb dX7_init_26 rfl (lv_at hl 0 rfl) ?_
  refine cx_new (ci := 6) (fs := [.null, .null, .null, .null, .int 0, .int 0, .long 0]) (C := RX6) (T := TX6) (N := 7) hx hb hgw iwWalk tyX6 tyX6_ok hown (hgw _ w_bfa8b346) (hgw _ w_90614593) (hgw _ w_f8f5642f) hK hO rfl (fun j hj => by rcases (show j = 0 ∨ j = 1 ∨ j = 2 ∨ j = 3 ∨ j = 4 ∨ j = 5 ∨ j = 6 by omega) with rfl | rfl | rfl | rfl | rfl | rfl | rfl <;> rfl) (Nat.le_of_ble_eq_true rfl) (Nat.le_of_ble_eq_true rfl) dX7_init_27 (fun H hO => ?_)
  obtain ⟨g7, qg7⟩ : ∃ x, x = va_up g6 176 (.inr (6, [.null, .null, .null, .null, .int 0, .int 0, .long 0])) := ⟨_, rfl⟩
  rw [← qg7] at hO
  have hO : cxO D b 177 g7 s H _ := hO
  have Ng7 : g7 176 = .inr (6, [.null, .null, .null, .null, .int 0, .int 0, .long 0]) := by rw [qg7]; exact va_up_self _ _ _
  have fg7 : ∀ j, j ≠ 176 → g7 j = g6 j := fun j h => by rw [qg7, va_up_ne _ _ h]
  have Y0 : g7 0 = .inr (7, [.ref (b + 1), .ref (b + 148), .null]) := by rw [fg7 _ (by omega)]; exact Y0
  refine lv_dup hx hb dX7_init_30 rfl ?_
  refine lv_aload_n hx hb dX7_init_31 rfl (lv_at hl 0 rfl) ?_
  refine va_get (D := D) (ci := 7) (v := .ref (b + 1)) (C := RX7) (T := TX7) (N := 3) hx hb hgw iwCW hown hK hO.1 0 (wd_get (by omega) Y0) rfl 0 (by decide) (hgw _ w_7a3df1ba) (fun _ h => h) rfl dX7_init_32 ?_
  refine lv_aload_n hx hb dX7_init_35 rfl (lv_at hl 0 rfl) ?_
  refine va_get (D := D) (ci := 7) (v := .ref (b + 148)) (C := RX7) (T := TX7) (N := 3) hx hb hgw iwCW hown hK hO.1 0 (wd_get (by omega) Y0) rfl 1 (by decide) (hgw _ w_3dcf37e4) (fun _ h => h) rfl dX7_init_36 ?_
  have k7 : ∀ j, j < 148 → j ≠ 0 → g7 j = g2 j := fun j h1 h2 => by rw [fg7 j (by omega), fg6 j h2, lfr j (by omega) (by omega), fg4 j (by omega), fg3 j h2]
  refine cx_callv (va_runI (As := [.ref (b + 1), .ref (b + 148)]) (rest := [.ref (b + 176), .ref (b + 0)]) ⟨hx, hb, hml, hown, hts⟩ (cx_Walk_init l D cA b 177 176 (by omega) _ Ng7 1 148 2 3 4 (by omega) (by omega) (by omega) (by omega) (by omega) (by omega) ((k7 1 (by omega) (by omega)).trans B0.1) ((k7 2 (by omega) (by omega)).trans B0.2.1) rfl) (cwI 2 hts (gw_N w_0a961088) rfl rfl rfl (hgw _ w_f8f5642f) (hgw _ w_b2a462a2) (hgw _ w_7a84360a) rfl (by decide +kernel) ⟨Nat.le_of_ble_eq_true rfl, Nat.le_of_ble_eq_true rfl⟩) (cx_preS hK hN hO) rfl rfl hl.1 rfl (lv_room (Nat.le_of_ble_eq_true rfl)) dX7_init_39 ⟨Nat.le_of_ble_eq_true rfl, Nat.le_of_ble_eq_true rfl⟩) hO (fun g8 H locs hFg8 hO => ?_)
  have Y0 : g8 0 = .inr (7, [.ref (b + 1), .ref (b + 148), .null]) := by rw [hFg8.2.2.2.2 0 (by omega) (by omega)]; exact Y0
  refine cx_putF (D := D) (cA := cA) (ci := 7) (v := .ref (b + 176)) (ty := .object "CallWalker$Walk") (C := RX7) (T := TX7) (N := 3) hx hb hgw iwCW tyX7 tyX7_ok nmX7 hown hK hO (q0 := 0) (by omega) Y0 rfl 2 (by decide) (hgw _ w_65f0a2e2) (fun _ h => h) rfl hin rfl (by decide +kernel) rfl rfl (Nat.le_of_ble_eq_true rfl) dX7_init_42 (fun H locs hO _ => ?_)
  have hO : cxO D b 269 (va_up g8 0 (.inr (7, [.ref (b + 1), .ref (b + 148), .ref (b + 176)]))) s H locs := hO
  obtain ⟨g9, qg9⟩ : ∃ x, x = va_up g8 0 (.inr (7, [.ref (b + 1), .ref (b + 148), .ref (b + 176)])) := ⟨_, rfl⟩
  rw [← qg9] at hO
  have Y0 : g9 0 = .inr (7, [.ref (b + 1), .ref (b + 148), .ref (b + 176)]) := by rw [qg9]; exact va_up_self _ _ _
  have fg9 : ∀ j, j ≠ 0 → g9 j = g8 j := fun j h => by rw [qg9, va_up_ne _ _ h]
  have k9 : ∀ j, j < 176 → j ≠ 0 → g9 j = g5 j := fun j h1 h2 => by rw [fg9 j h2, hFg8.2.2.2.2 j (by omega) (by omega), fg7 j (by omega), fg6 j h2]
  have k8 : ∀ j, j < 148 → j ≠ 0 → g9 j = g2 j := fun j h1 h2 => by rw [k9 j (by omega) h2, lfr j (by omega) (by omega), fg4 j (by omega), fg3 j h2]
  exact cx_vret hx hb hr hlocks hO ⟨Y0, ⟨g2, g1, B0, k8⟩, ⟨g5, ⟨l0, l1, l2, l3, l4, l5, l6, l7, l8, l9⟩, k9⟩, g8, g7, hFg8, fun j _ h => fg9 j h⟩ dX7_init_45
