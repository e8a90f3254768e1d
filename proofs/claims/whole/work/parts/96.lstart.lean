set_option maxHeartbeats 4000000 in
set_option maxRecDepth 100000 in
theorem whole_start {p : Program} {e : Env} {s : State} {m : MethodId} {below : List Frame} {meth : Method} {c : Code} (l : Launch) (hlt : l.stackTraces = false) {b L : Nat} {xs : Nat → Int32} (hL : L ≤ 3072) (C0 : lw_At p s m meth c b L xs) : W p l e room_1 s m #[Value.ref b] below meth c s.heap [] 0 0 (lw_Z below #[Value.ref b] s) (entryFrame m ([Value.ref b] : List Value).toArray 8) := by
  obtain ⟨hx, hb, hr, hml, hown, hts0, hX, hbl, hlocks, hgv⟩ := C0
  obtain ⟨D, cA, tb0, tb1, sa, hK⟩ := law_K hts0 hgv
  have hts : ∀ w ∈ lvW, w.before #[Value.ref b] s = true := fun w h => (List.mem_cons.mp h).elim (fun z => by rw [z]; exact hts0 _ w_Lvalue) (fun z => hts0 w (List.mem_filter.mp z).1)
  have hgw := fun (w : Cond) (h : w ∈ gwW) => hts w (List.mem_cons_of_mem _ h)
  have S : CallFix p m c cL_law 8 s #[Value.ref b] lvW RL := ⟨hx, hb, hml, hown, hts⟩
  have hbA : ¬ lwA s.heap.size b := Nat.not_le.mpr hbl
  have hl := lv_entry ([.ref b]) (n := 8) (Nat.le_of_ble_eq_true rfl)
  rw [lg_entry_eq]
  generalize (lg_sl ([.ref b]) ++ List.replicate (8 - (lg_sl ([.ref b])).length) Slot.unset).toArray = ls at hl ⊢
  have hl : lv_has ls 8 [(0, .ref b)] := hl
  obtain ⟨g0, -⟩ : ∃ g : Nat → va_E, True := ⟨fun _ => .inr (0, []), trivial⟩
  have hO : cxO D s.heap.size 0 g0 s s.heap [] := ⟨fun k x hx9 => absurd (wd_at hx9).1 (Nat.not_lt_zero k), va_S.rf, rfl⟩
  refine cx_new (ci := 7) (fs := [.null, .null, .null]) (C := RX7) (T := TX7) (N := 3) hx hb hgw iwCW tyX7 tyX7_ok hown (hgw _ w_07f4af21) (hgw _ w_effe7255) (hgw _ w_0fc29077) hK.1.1 hO rfl (fun j hj => by rcases (show j = 0 ∨ j = 1 ∨ j = 2 by omega) with rfl | rfl | rfl <;> rfl) (Nat.le_of_ble_eq_true rfl) (Nat.le_of_ble_eq_true rfl) dL_law_0 (fun H hO => ?_)
  obtain ⟨g1, qg1⟩ : ∃ x, x = va_up g0 0 (.inr (7, [.null, .null, .null])) := ⟨_, rfl⟩
  rw [← qg1] at hO
  have hO : cxO D s.heap.size 1 g1 s H _ := hO
  have Ng1 : g1 0 = .inr (7, [.null, .null, .null]) := by rw [qg1]; exact va_up_self _ _ _
  refine lv_dup hx hb dL_law_3 rfl ?_
  refine cx_callv (va_runI (As := []) (rest := [.ref (s.heap.size + 0)]) S (cx_CW_init l D cA s.heap.size g1 Ng1) (cwI 0 hts (gw_N w_b809a0c9) rfl rfl rfl (hgw _ w_0fc29077) (hgw _ w_04a4c9b7) (hgw _ w_8631ab94) rfl (by decide +kernel) ⟨Nat.le_of_ble_eq_true rfl, Nat.le_of_ble_eq_true rfl⟩) (cx_preS hK.1.1 hK.1.2.2 hO) rfl rfl hl.1 rfl (lv_room (Nat.le_of_ble_eq_true rfl)) dL_law_4 ⟨Nat.le_of_ble_eq_true rfl, Nat.le_of_ble_eq_true rfl⟩) hO (fun g2 H locs hF2 hO => ?_)
  refine lv_astore_n (lv' := [(1, .ref (s.heap.size + 0)), (0, .ref b)]) hx hb dL_law_7 rfl hl (by decide) rfl (fun ls hl => ?_)
  refine cx_new (ci := 9) (fs := [.int 0, .null, .null, .null, .null, .null, .null, .null, .null, .null, .int 0, .long 0, .int 0, .int 0, .int 0, .int 0, .int 0, .int 0, .null]) (C := RX9) (T := TX9) (N := 19) hx hb hgw iwMo tyX9 tyX9_ok hown (hgw _ w_fefb2f88) (hgw _ w_b5fa977d) (hgw _ w_18f41a94) hK.1.1 hO rfl (fun j hj => by rcases (show j = 0 ∨ j = 1 ∨ j = 2 ∨ j = 3 ∨ j = 4 ∨ j = 5 ∨ j = 6 ∨ j = 7 ∨ j = 8 ∨ j = 9 ∨ j = 10 ∨ j = 11 ∨ j = 12 ∨ j = 13 ∨ j = 14 ∨ j = 15 ∨ j = 16 ∨ j = 17 ∨ j = 18 by omega) with rfl | rfl | rfl | rfl | rfl | rfl | rfl | rfl | rfl | rfl | rfl | rfl | rfl | rfl | rfl | rfl | rfl | rfl | rfl <;> rfl) (Nat.le_of_ble_eq_true rfl) (Nat.le_of_ble_eq_true rfl) dL_law_8 (fun H hO => ?_)
  obtain ⟨g3, qg3⟩ : ∃ x, x = va_up g2 269 (.inr (9, [.int 0, .null, .null, .null, .null, .null, .null, .null, .null, .null, .int 0, .long 0, .int 0, .int 0, .int 0, .int 0, .int 0, .int 0, .null])) := ⟨_, rfl⟩
  rw [← qg3] at hO
  have hO : cxO D s.heap.size 270 g3 s H _ := hO
  have Ng3 : g3 269 = .inr (9, [.int 0, .null, .null, .null, .null, .null, .null, .null, .null, .null, .int 0, .long 0, .int 0, .int 0, .int 0, .int 0, .int 0, .int 0, .null]) := by rw [qg3]; exact va_up_self _ _ _
  refine lv_dup hx hb dL_law_11 rfl ?_
  refine cx_callv (va_runI (As := []) (rest := [.ref (s.heap.size + 269)]) S (cx_Mo_init l D cA s.heap.size 270 269 (by omega) g3 Ng3) (cwI 0 hts (gw_N w_00482bd0) rfl rfl rfl (hgw _ w_18f41a94) (hgw _ w_c49eaad6) (hgw _ w_1a25f6ee) rfl (by decide +kernel) ⟨Nat.le_of_ble_eq_true rfl, Nat.le_of_ble_eq_true rfl⟩) (cx_preS hK.1.1 hK.1.2.2 hO) rfl rfl hl.1 rfl (lv_room (Nat.le_of_ble_eq_true rfl)) dL_law_12 ⟨Nat.le_of_ble_eq_true rfl, Nat.le_of_ble_eq_true rfl⟩) hO (fun g4 H locs hF4 hO => ?_)
  obtain ⟨m0, m1, m2, m3, m4, m5, m6, m7, m8, m9, m10, mfr⟩ := hF4
  refine lv_astore_n (lv' := [(2, .ref (s.heap.size + 269)), (1, .ref (s.heap.size + 0)), (0, .ref b)]) hx hb dL_law_15 rfl hl (by decide) rfl (fun ls hl => ?_)
  refine lv_iconst (v := 1) hx hb dL_law_16 (by decide) ?_
  refine cx_newa (atype := .long) (cy := cA 1) (a0 := (1, .inr (.inl (fun _ => 0)))) hx hb (hgw _ w_f2af499d) (hK.1.1.2 1 _ rfl).2 hO (fun _ => rfl) (by decide) rfl (by decide) (Nat.le_of_ble_eq_true rfl) (Nat.le_of_ble_eq_true rfl) dL_law_17 (fun H hO => ?_)
  obtain ⟨g5, qg5⟩ : ∃ x, x = va_up g4 280 (.inl (cA 1, 1, .inr (.inl (fun _ => 0)))) := ⟨_, rfl⟩
  rw [← qg5] at hO
  have hO : cxO D s.heap.size 281 g5 s H _ := hO
  have N5 : g5 280 = .inl (cA 1, 1, .inr (.inl (fun _ => 0))) := by rw [qg5]; exact va_up_self _ _ _
  have n5 : ∀ j, j ≠ 280 → g5 j = g4 j := fun j hj => by rw [qg5]; exact va_up_ne _ _ hj
  have n3 : ∀ j, j < 269 → g5 j = g2 j := fun j hj => by rw [n5 j (by omega), mfr j (by omega) (by omega), qg3]; exact va_up_ne _ _ (by omega)
  refine lv_astore_n (lv' := [(3, .ref (s.heap.size + 280)), (2, .ref (s.heap.size + 269)), (1, .ref (s.heap.size + 0)), (0, .ref b)]) hx hb dL_law_19 rfl hl (by decide) rfl (fun ls hl => ?_)
  refine lv_iconst (v := 0) hx hb dL_law_20 (by decide) ?_
  refine lv_istore (lv' := [(4, .int 0), (3, .ref (s.heap.size + 280)), (2, .ref (s.heap.size + 269)), (1, .ref (s.heap.size + 0)), (0, .ref b)]) hx hb dL_law_21 hl (by decide) rfl (fun ls hl => ?_)
  have hP : ∀ k, k < 281 → va_at D vwCl (s.heap.size + k, g5 k) H := fun k hk => hO.1 k _ (wd_get hk rfl)
  have h269 : va_P D vwCl (wd (fun k => s.heap.size + k) 269 g2) H := by
    intro k x hx9
    obtain ⟨hk, rfl⟩ := wd_at hx9
    have h := hP k (by omega)
    rw [n3 k hk] at h
    exact h
  have hout : va_P D vwCl (outW cA (s.heap.size + 280) (fun _ => 0)) H := by
    have h := hP 280 (by omega)
    rw [N5] at h
    exact va_P.one h
  have hLO : LO D s.heap.size cA s.heap cw0 (rf0 s.heap.size) (fun _ => 0) H _ := ⟨cw_new hF2 h269, lr_new hP (by rw [n5 269 (by omega)]; exact m0) (by rw [n5 270 (by omega)]; exact m1) (by rw [n5 271 (by omega)]; exact m2) (by rw [n5 272 (by omega)]; exact m3) (by rw [n5 273 (by omega)]; exact m4) (by rw [n5 274 (by omega)]; exact m5) (by rw [n5 275 (by omega)]; exact m6) (by rw [n5 276 (by omega)]; exact m7) (by rw [n5 277 (by omega)]; exact m8) (by rw [n5 278 (by omega)]; exact m9) (by rw [n5 279 (by omega)]; exact m10), rf0_D _, hout, hO.2.1, by rw [rf0_2]; exact hO.2.2⟩
  exact law_loop hlt S hr hlocks hX hbl hbA hL hK hx hb L 0 (by omega) cw0 (rf0 s.heap.size) (fun _ => 0) H _ ls _ _ (rel00 _) hLO (lv_sub hl [4, 3, 2, 1, 0] rfl) (by omega) (by omega) (by omega)
