-- the law's case 11: value
theorem e_val {a b : CwS} (r : Rel0 a b) (x : Int32) : ∃ ok : Int32, j_Ledger_hasEvent x a = some (ok, a) ∧ (ok = 0 ∨ ix x 40 = true) ∧ ∀ z, (ok = 0 ∧ j_Mo_value x (sR b 101 2 z) = some (0, sI (sR b 101 2 z) 6 0 0 1)) ∨ (ok ≠ 0 ∧ j_Mo_value x (sR b 101 2 z) = some (gL a 2 0 x.toNatClampNeg, sI (sR b 101 2 z) 6 0 0 0)) := by
  rcases e_value r x with ⟨k, hk, hx, h1, h2⟩ | ⟨h1, h2⟩
  · refine ⟨1, h1, Or.inr (by rw [hx]; exact ixn hk (by omega)), fun z => Or.inr ⟨by decide, ?_⟩⟩
    rcases e_value (r.sz z) x with ⟨k2, hk2, hx2, g1, g2⟩ | ⟨g1, g2⟩
    · have e : x.toNatClampNeg = k2 := by rw [hx2, nI_clamp (by omega)]
      rw [g2, e]
    · rw [h1] at g1
      exact absurd (congrArg Prod.fst (Option.some.inj g1)) (show ¬ (1 : Int32) = 0 by decide)
  · refine ⟨0, h1, Or.inl rfl, fun z => Or.inl ⟨rfl, ?_⟩⟩
    rcases e_value (r.sz z) x with ⟨k2, hk2, hx2, g1, g2⟩ | ⟨g1, g2⟩
    · rw [h1] at g1
      exact absurd (congrArg Prod.fst (Option.some.inj g1)) (show ¬ (0 : Int32) = 1 by decide)
    · exact g2
theorem w_LvalueG : Cond.codeWith yL_value cL_value 4 (some .int) [(0, 8, 11, 13)] ∈ gwW := gw_mem w_Lvalue (by decide +kernel)
theorem lvG : GoodIn lvW (va_wsS RL 74 yL_value lvW) := by
  refine gw_sub fun w hw => ?_
  simp only [va_wsS, List.cons_append, List.nil_append, List.mem_cons] at hw
  rcases hw with rfl | rfl | rfl | rfl | hw
  · exact w_e2e0ec3d
  · exact w_ea92d017
  · exact w_9b07bad9
  · exact w_LvalueG
  · exact hw
set_option maxHeartbeats 4000000 in
set_option maxRecDepth 100000 in
theorem law_11 {p : Program} {l : Launch} {e : Env} {s : State} {m : MethodId} {args : Array Value} {below : List Frame} {meth : Method} {c : Code} {H : Heap} {locs : List Loc} {cells slots : Nat} {Q : State → Prop} {ls : Array Slot} {bs L B k : Nat} {xs : Nat → Int32} {D : va_G} {cA : Nat → ClassId} {tb0 tb1 sa : Nat} {a b : CwS} {fo : Nat → Int64} (hlt : l.stackTraces = false) (S : CallFix p m c cL_law 8 s args lvW RL) (hX : lwX bs L xs B k s) (hK : LK D B cA tb0 tb1 sa s) (r : Rel0 a b) (hO : LO D B cA s.heap a b fo H locs) (hl : lv_has ls 8 (lwL bs B k)) (hc : cells ≤ 281 + 600 * k + 8 * gR b 101 0) (hs : slots ≤ 8522 + 9600 * k + 134 * gR b 101 0) (kk : LNext p l e s m args below meth c D B cA bs k Q) : W p l e room_1 s m args below meth c H locs cells slots Q (F0 m 570 ls []) := by
  have hgw := fun (w : Cond) (h : w ∈ gwW) => S.2.2.2.2 w (List.mem_cons_of_mem _ h)
  have hk5 : k ≤ 511 := by have h1 := hX.2.2.2.1; have h2 := hX.2.2.2.2; omega
  have f10 : gR b 101 0 ≤ 10 := r.2.2.2.2.2
  obtain ⟨ok, he, hok, hv⟩ := e_val r (xs (6 * k + 1))
  refine lv_aload_n S.1 S.2.1 dL_law_570 rfl (lv_at hl 1 rfl) ?_
  refine lw_ld S hX hO.S (lv_at hl 0 rfl) (lv_at hl 4 rfl) 1 (by decide) rfl dL_law_571 dL_law_572 dL_law_574 dL_law_575 dL_law_576 ?_
  refine lv_aload_n S.1 S.2.1 dL_law_577 rfl (lv_at hl 3 rfl) ?_
  refine vx_calli (A0 := lwA B) (H0 := s.heap) (vx_runSX (hh := [(0, 8, 11, 13)]) (As := [.ref (lad B 0), .int (xs (6 * k + 1)), .ref (B + 280)]) (rest := []) S (c_L_value l hlt D (lcA B) (lad B) cA tb0 tb1 sa (B + 280) (xs (6 * k + 1)) a fo ok he hok) (vx_cwSW 3 S.2.2.2.2 lvG rfl rfl rfl (by decide +kernel) ⟨Nat.le_of_ble_eq_true rfl, Nat.le_of_ble_eq_true rfl⟩) (lv_pre hK hO) rfl rfl hl.1 rfl (lv_room (Nat.le_of_ble_eq_true rfl)) dL_law_578 ⟨show _ ≤ 601024 from by omega, show _ ≤ 7293034 from by omega⟩) hO.S (fun q _ h => h.elim lc_w (fun z => by rw [z]; exact lo_w)) (fun q h => h.elim lc_w (fun z => by rw [z]; exact lo_w)) (fun q _ h => h.elim) ?_ ?_
  · intro E ce q9 u t H1 locs1 ht hal hp
    exact hp.elim
  · intro r0 fo2 t H1 locs1 ht hal hpo hBu hsz hkeep hS
    have hO : LO D B cA s.heap a (sR b 101 2 H1.size) fo2 H1 locs1 := hO.val (by rw [← ht]; exact hBu.1) (by rw [← ht]; exact hBu.2) hsz hkeep hS
    obtain ⟨w, tv, hmv, rfl, hq⟩ : ∃ (w : Int64) (tv : Int32), j_Mo_value (xs (6 * k + 1)) (sR b 101 2 H1.size) = some (w, sI (sR b 101 2 H1.size) 6 0 0 tv) ∧ r0 = tv ∧ (tv = 0 → fo2 0 = w) := by
      rcases hv H1.size with ⟨k1, k2⟩ | ⟨k1, k2⟩
      · rcases hpo with ⟨p1, p2, p3⟩ | ⟨p1, p2, p3⟩
        · exact ⟨0, 1, k2, p2, fun z => absurd z (by decide)⟩
        · exact absurd k1 p1
      · rcases hpo with ⟨p1, p2, p3⟩ | ⟨p1, p2, p3⟩
        · exact absurd p1 k1
        · exact ⟨_, 0, k2, p2, fun _ => p3⟩
    have hth : j_Mo_thrown (sI (sR b 101 2 H1.size) 6 0 0 r0) = some (r0, sI (sR b 101 2 H1.size) 6 0 0 r0) := by
      unfold j_Mo_thrown
      rw [gI_self]
    refine lv_istore (lv' := (5, .int r0) :: lwL bs B k) S.1 S.2.1 dL_law_581 hl (by decide) rfl (fun ls hl => ?_)
    refine lv_aload_n S.1 S.2.1 dL_law_583 rfl (lv_at hl 3 rfl) ?_
    refine lw_ld S hX hO.S (lv_at hl 1 rfl) (lv_at hl 5 rfl) 1 (by decide) rfl dL_law_584 dL_law_585 dL_law_587 dL_law_588 dL_law_589 ?_
    refine lm_calll (va_runV (As := [.int (xs (6 * k + 1))]) (rest := []) S (c_Mo_value l D (lmA B) (B + 269) cA (sR b 101 2 H1.size) (xs (6 * k + 1)) w _ hmv) (cwV 1 S.2.2.2.2 (gw_V w_0169228e w_5d1ab722 w_7147b26e w_18f41a94 w_cc0bad1d) rfl rfl rfl (by decide +kernel) ⟨Nat.le_of_ble_eq_true rfl, Nat.le_of_ble_eq_true rfl⟩) (lm_pre hK hO) rfl rfl hl.1 rfl (lv_room (Nat.le_of_ble_eq_true rfl)) dL_law_590 ⟨show _ ≤ 601024 from by omega, show _ ≤ 7293034 from by omega⟩) hO (fun H locs hO => ?_)
    refine lv_lstore (lv' := (6, .long w) :: (5, .int r0) :: lwL bs B k) S.1 S.2.1 dL_law_593 hl (by decide) rfl (fun ls hl => ?_)
    refine lv_aload_n S.1 S.2.1 dL_law_595 rfl (lv_at hl 4 rfl) ?_
    refine lm_calli (va_runV (As := []) (rest := []) S (c_Mo_thrown l D (lmA B) (B + 269) cA (sI (sR b 101 2 H1.size) 6 0 0 r0) r0 _ hth) (cwV 0 S.2.2.2.2 (gw_V w_c27d4d0d w_17de95fb w_d527d131 w_18f41a94 w_718f1c23) rfl rfl rfl (by decide +kernel) ⟨Nat.le_of_ble_eq_true rfl, Nat.le_of_ble_eq_true rfl⟩) (lm_pre hK hO) rfl rfl hl.1 rfl (lv_room (Nat.le_of_ble_eq_true rfl)) dL_law_596 ⟨show _ ≤ 601024 from by omega, show _ ≤ 7293034 from by omega⟩) hO (fun H locs hO => ?_)
    have e0 : gR (sI (sR b 101 2 H1.size) 6 0 0 r0) 101 0 = gR b 101 0 := gR_sz b H1.size 101 0 (by omega)
    have r2 : Rel0 a (sI (sR b 101 2 H1.size) 6 0 0 r0) := r.sz H1.size
    have fin : W p l e room_1 s m args below meth c H locs (cells + 1 + 0 + 0) (slots + 6 + 0 + 0) Q (F0 m 622 ls []) := by
      refine lv_goto (tgt := 625) S.1 S.2.1 dL_law_622 (by decide) ?_
      exact kk a _ fo2 H locs ls _ _ r2 hO (lv_sub hl [2, 3, 4, 5, 6] rfl) (by omega) (by omega)
    refine lv_iload S.1 S.2.1 dL_law_599 (lv_at hl 1 rfl) ?_
    refine lv_icmp_eq (tgt := 606) S.1 S.2.1 dL_law_601 (by decide) (fun _ => ?_) (fun h => absurd rfl h)
    refine lv_iload S.1 S.2.1 dL_law_606 (lv_at hl 1 rfl) ?_
    refine lv_if_ne (tgt := 622) S.1 S.2.1 dL_law_608 (by decide) (fun _ => fin) (fun h => ?_)
    refine lv_aload_n S.1 S.2.1 dL_law_611 rfl (lv_at hl 5 rfl) ?_
    refine lv_iconst (v := 0) S.1 S.2.1 dL_law_612 (by decide) ?_
    refine va_lald S.1 S.2.1 hK.1.1 hO.2.2.2.1 0 1 rfl rfl (ix_in (by decide)) dL_law_613 ?_
    have e1 : fo2 ((0 : Int32)).toNatClampNeg = w := hq h
    rw [e1]
    refine lv_lload S.1 S.2.1 dL_law_614 (lv_at hl 0 rfl) ?_
    exact lw_eql (tgt := 622) S dL_law_616 dL_law_617 (by decide) fin
