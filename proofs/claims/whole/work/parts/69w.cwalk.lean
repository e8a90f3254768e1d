set_option maxRecDepth 100000 in
theorem w_91ecf524 : Cond.fieldLink RX6 40 "CallWalker$Book" "behaviours" "[LCallWalker$Behaviour;" ∈ gwW := gw_at 83 rfl rfl
set_option maxRecDepth 100000 in
theorem w_72b4d173 : Cond.classLink RX6 9 RX2 ∈ gwW := gw_at 140 rfl rfl
set_option maxRecDepth 100000 in
theorem w_a94eecd7 : Cond.instantiable RX2 10 ∈ gwW := gw_at 142 rfl rfl
set_option maxRecDepth 100000 in
theorem w_cd161b72 : Cond.code yX2_init cX2_init 2 none ∈ gwW := gw_at 145 rfl rfl
set_option maxRecDepth 100000 in
theorem w_ec8ccec2 : Cond.instanceMethod yX2_init ∈ gwW := gw_at 144 rfl rfl
set_option maxRecDepth 100000 in
theorem w_32df5402 : Cond.methodLink RX6 46 yX2_init ∈ gwW := gw_at 143 rfl rfl
set_option maxRecDepth 100000 in
theorem w_e6197cac : Cond.methodLink RX6 3 objectInit ∈ gwW := gw_at 139 rfl rfl
/-- the nine cells of a frame at x, its behaviour the one at kz -/
def cx_FrI (cA : Nat → ClassId) (b kz x : Nat) (g2 : Nat → va_E) : Prop := g2 x = .inr (2, [.ref (b + (x + 3)), .ref (b + (x + 6)), .ref (b + (x + 1)), .ref (b + (x + 2)), .int 0, .ref (b + kz), .int 0, .int (-1), .int 0, .int 0]) ∧ g2 (x + 1) = .inl (cA 0, 4, .inl (fun _ => 0)) ∧ g2 (x + 2) = .inl (cA 0, 4, .inl (fun _ => 0)) ∧ g2 (x + 3) = .inr (4, [.ref (b + (x + 4)), .ref (b + (x + 5)), .int 0, .int 0]) ∧ g2 (x + 4) = .inl (cA 0, 12, .inl (fun _ => 0)) ∧ g2 (x + 5) = .inl (cA 1, 12, .inr (.inl (fun _ => 0))) ∧ g2 (x + 6) = .inr (5, [.ref (b + (x + 3)), .ref (b + (x + 7)), .ref (b + (x + 8))]) ∧ g2 (x + 7) = .inl (cA 1, 192, .inr (.inl (fun _ => 0))) ∧ g2 (x + 8) = .inl (cA 0, 12, .inl (fun _ => 0))
def cx_WalkI (cA : Nat → ClassId) (b n k0 p1 p2 kz : Nat) (g : Nat → va_E) (i : Nat) (g2 : Nat → va_E) : Prop := g2 k0 = .inr (6, [.ref (b + p1), .ref (b + p2), .ref (b + n), .ref (b + (n + 1)), .int 0, .int 0, .long 0]) ∧ g2 n = .inl (cA 4, 10, .inr (.inr (.inr (.inr (fun j => if j < i then some (b + (n + 2 + 9 * j)) else none))))) ∧ g2 (n + 1) = .inl (cA 0, 5, .inl (fun _ => 0)) ∧ (∀ j, j < i → cx_FrI cA b kz (n + 2 + 9 * j) g2) ∧ ∀ j, j < n → j ≠ k0 → g2 j = g j
theorem cx_FrI.congr {cA : Nat → ClassId} {b kz x : Nat} {g g2 : Nat → va_E} (h : cx_FrI cA b kz x g) (e : ∀ j, j < 9 → g2 (x + j) = g (x + j)) : cx_FrI cA b kz x g2 := by
  obtain ⟨h0, h1, h2, h3, h4, h5, h6, h7, h8⟩ := h
  exact ⟨(e 0 (by omega)).trans h0, (e 1 (by omega)).trans h1, (e 2 (by omega)).trans h2, (e 3 (by omega)).trans h3, (e 4 (by omega)).trans h4, (e 5 (by omega)).trans h5, (e 6 (by omega)).trans h6, (e 7 (by omega)).trans h7, (e 8 (by omega)).trans h8⟩
set_option maxHeartbeats 4000000 in
set_option maxRecDepth 100000 in
theorem cx_Walk_loop {l : Launch} {D : va_G} {cA : Nat → ClassId} {b n k0 p1 p2 kb kg kz : Nat} (hk0 : k0 < n) (hp1 : p1 < n) (hp2 : p2 < n) (hkb : kb < n) (hkz : kz < n) (hn1 : p1 ≠ k0) (hnb : kb ≠ k0) (g0 : Nat → va_E) {fb : Nat → Option Nat} (hB1 : g0 p1 = .inr (1, [.ref (b + kb), .ref (b + kg)])) (hB2 : g0 kb = .inl (cA 3, 48, .inr (.inr (.inr (.inr fb))))) (hB3 : fb 0 = some (b + kz)) {p : Program} {e : Env} {s : State} {m : MethodId} {args : Array Value} {below : List Frame} {meth : Method} {c : Code} (S : CallFix p m c cX6_init 4 s args (wv yX6_init cX6_init 4 none) RX6) (hr : meth.sig.returnType = none) (hlocks : meth.locks = false) (hK : va_K D vwCl (rfTy cA) s) (hN : cxN s) : ∀ (k i : Nat), i + k = 10 → ∀ (g : Nat → va_E) (H : Heap) (locs : List Loc) (ls : Array Slot), cx_WalkI cA b n k0 p1 p2 kz g0 i g → cxO D b (n + 2 + 9 * i) g s H locs → lv_has ls 4 [(0, .ref (b + k0)), (1, .ref (b + p1)), (2, .ref (b + p2)), (3, .int (nI i))] → W p l e ({ frames := 3, cells := 92, slots := 2545, locals := 54 }) s m args below meth c H locs (2 + 9 * i) (15 + 253 * i) (MQ below (cxQ D b (n + 92) (cx_WalkI cA b n k0 p1 p2 kz g0 10)) args s 92 2545 (cxA b)) (F0 m 47 ls []) := by
  obtain ⟨hx, hb, hml, hown, hts⟩ := S
  have hgw := fun (w : Cond) (h : w ∈ gwW) => hts w (List.mem_cons_of_mem _ h)
  intro k
  induction k with
  | zero =>
    intro i hi g H locs ls hI hO hl
    have hi : i = 10 := by omega
    subst hi
    refine lv_iload_n hx hb dX6_init_47 rfl (lv_at hl 3 rfl) ?_
    refine lv_bipush (v := 10) hx hb dX6_init_48 (by decide) ?_
    refine lv_icmp_ge (tgt := 78) hx hb dX6_init_50 (by decide) (fun _ => ?_) (fun c0 => absurd (by decide) c0)
    exact cx_vret hx hb hr hlocks hO hI dX6_init_78
  | succ k ih =>
    intro i hi g H locs ls hI hO hl
    have hlt : i < 10 := by omega
    have hcl : (nI i).toNatClampNeg = i := cx_clamp (by omega)
    refine lv_iload_n hx hb dX6_init_47 rfl (lv_at hl 3 rfl) ?_
    refine lv_bipush (v := 10) hx hb dX6_init_48 (by decide) ?_
    refine lv_icmp_ge (tgt := 78) hx hb dX6_init_50 (by decide) (fun c0 => ?_) (fun _ => ?_)
    · exfalso
      have q1 := Int32.le_iff_toInt_le.mp c0
      have q2 : (nI i).toInt.toNat = i := hcl
      have q3 : (10 : Int32).toInt = 10 := rfl
      omega
    obtain ⟨i1, i2, i3, i4, i5⟩ := hI
    refine lv_aload_n hx hb dX6_init_53 rfl (lv_at hl 0 rfl) ?_
    refine va_get (D := D) (ci := 6) (v := .ref (b + n)) (C := RX6) (T := TX6) (N := 7) hx hb hgw iwWalk hown hK hO.1 k0 (wd_get (by omega) i1) rfl 2 (by decide) (hgw _ w_4a27d2bd) (fun _ h => h) rfl dX6_init_54 ?_
    refine lv_iload_n hx hb dX6_init_57 rfl (lv_at hl 3 rfl) ?_
    refine cx_new (ci := 2) (fs := [.null, .null, .null, .null, .int 0, .null, .int 0, .int 0, .int 0, .int 0]) (C := RX2) (T := TX2) (N := 10) hx hb hgw iwFrame tyX2 tyX2_ok hown (hgw _ w_72b4d173) (hgw _ w_a94eecd7) (hgw _ w_aeeb22ff) hK hO rfl (fun j hj => by rcases (show j = 0 ∨ j = 1 ∨ j = 2 ∨ j = 3 ∨ j = 4 ∨ j = 5 ∨ j = 6 ∨ j = 7 ∨ j = 8 ∨ j = 9 by omega) with rfl | rfl | rfl | rfl | rfl | rfl | rfl | rfl | rfl | rfl <;> rfl) (by show 2 + 9 * i + 1 ≤ 92; omega) (by show 15 + 253 * i + 10 ≤ 2545; omega) dX6_init_58 (fun H hO => ?_)
    refine lv_dup hx hb dX6_init_61 rfl ?_
    refine lv_aload_n hx hb dX6_init_62 rfl (lv_at hl 1 rfl) ?_
    have j1 : va_up g (n + 2 + 9 * i) (.inr (2, [.null, .null, .null, .null, .int 0, .null, .int 0, .int 0, .int 0, .int 0])) p1 = .inr (1, [.ref (b + kb), .ref (b + kg)]) := by rw [va_up_ne _ _ (by omega), i5 _ hp1 hn1]; exact hB1
    have j2 : va_up g (n + 2 + 9 * i) (.inr (2, [.null, .null, .null, .null, .int 0, .null, .int 0, .int 0, .int 0, .int 0])) kb = .inl (cA 3, 48, .inr (.inr (.inr (.inr fb)))) := by rw [va_up_ne _ _ (by omega), i5 _ hkb hnb]; exact hB2
    refine va_get (D := D) (ci := 1) (v := .ref (b + kb)) (C := RX1) (T := TX1) (N := 2) hx hb hgw iwBook hown hK hO.1 p1 (wd_get (by omega) j1) rfl 0 (by decide) (hgw _ w_91ecf524) (fun _ h => h) rfl dX6_init_63 ?_
    refine lv_iconst (v := 0) hx hb dX6_init_66 (by decide) ?_
    refine va_aldq hx hb hK hO.1 kb 3 (wd_get (by omega) j2) rfl (i := 0) (ix_in (by decide)) dX6_init_67 ?_
    rw [show (0 : Int32).toNatClampNeg = 0 from rfl, hB3]
    refine W.eq (g2 := F0 m 68 ls [.ref (b + kz), .ref (b + (n + 2 + 9 * i)), .ref (b + (n + 2 + 9 * i)), .int (nI i), .ref (b + n)]) rfl ?_
    refine cx_callv (va_runI (As := [.ref (b + kz)]) (rest := [.ref (b + (n + 2 + 9 * i)), .int (nI i), .ref (b + n)]) ⟨hx, hb, hml, hown, hts⟩ (cx_Frame_init l D cA b (n + 2 + 9 * i + 1) (n + 2 + 9 * i) (by omega) _ (va_up_self _ _ _) kz (by omega)) (cwI 1 hts (gw_N w_cd161b72) rfl rfl rfl (hgw _ w_aeeb22ff) (hgw _ w_32df5402) (hgw _ w_ec8ccec2) rfl (by decide +kernel) ⟨Nat.le_of_ble_eq_true rfl, Nat.le_of_ble_eq_true rfl⟩) (cx_preS hK hN hO) rfl rfl hl.1 rfl (lv_room (Nat.le_of_ble_eq_true rfl)) dX6_init_68 ⟨by show 2 + 9 * i + 1 + 8 ≤ 92; omega, by show 15 + 253 * i + 10 + 243 ≤ 2545; omega⟩) hO (fun g2 H locs hF hO => ?_)
    obtain ⟨f0, f1, f2, f3, f4, f5, f6, f7, f8, ffr⟩ := hF
    have j3 : g2 n = .inl (cA 4, 10, .inr (.inr (.inr (.inr (fun j => if j < i then some (b + (n + 2 + 9 * j)) else none))))) := by rw [ffr _ (by omega) (by omega), va_up_ne _ _ (by omega)]; exact i2
    refine cx_ast hx hb hK hO n (n + 2 + 9 * i) 4 2 (by omega) (by omega) j3 (r := (RX2, TX2, 10)) rfl f0 rfl (vp_in_nI hlt (by decide)) dX6_init_71 (fun H locs hO => ?_)
    rw [hcl] at hO
    refine lv_iinc (v := nI (i + 1)) (lv' := [(3, .int (nI (i + 1))), (0, .ref (b + k0)), (1, .ref (b + p1)), (2, .ref (b + p2))]) hx hb dX6_init_72 hl (k := 3) rfl (nI_1 i) (by decide) rfl (fun ls hl => ?_)
    refine lv_goto (tgt := 47) hx hb dX6_init_75 (by decide) ?_
    refine W.widen (k := 2 + 9 * (i + 1)) (n := 15 + 253 * (i + 1)) (by omega) (by omega) ?_
    have old : ∀ j, j < n + 2 + 9 * i → j ≠ n → va_up g2 n (.inl (cA 4, 10, .inr (.inr (.inr (.inr (va_up (fun j => if j < i then some (b + (n + 2 + 9 * j)) else none) i (some (b + (n + 2 + 9 * i))))))))) j = g j := fun j h1 h2 => by rw [va_up_ne _ _ h2, ffr _ (by omega) (by omega), va_up_ne _ _ (by omega)]
    refine ih (i + 1) (by omega) _ H locs ls ⟨?_, ?_, ?_, ?_, ?_⟩ (show cxO D b (n + 2 + 9 * (i + 1)) _ s H locs from by rw [show n + 2 + 9 * (i + 1) = n + 2 + 9 * i + 1 + 8 by omega]; exact hO) (lv_sub hl [1, 2, 3, 0] rfl)
    · rw [old _ (by omega) (by omega)]; exact i1
    · rw [va_up_self]
      congr 7
      funext j
      by_cases hj : j = i
      · subst hj
        rw [va_up_self, if_pos (by omega)]
      · rw [va_up_ne _ _ hj]
        by_cases hj2 : j < i
        · rw [if_pos hj2, if_pos (by omega)]
        · rw [if_neg hj2, if_neg (by omega)]
    · rw [old _ (by omega) (by omega)]; exact i3
    · intro j hj
      by_cases hj2 : j < i
      · exact (i4 j hj2).congr (fun z hz => old _ (by omega) (by omega))
      · have : j = i := by omega
        subst this
        have hh : cx_FrI cA b kz (n + 2 + 9 * j) g2 := ⟨f0, f1, f2, f3, f4, f5, f6, f7, f8⟩
        exact hh.congr (fun z hz => va_up_ne _ _ (by omega))
    · intro j h1 h2
      rw [old _ (by omega) (by omega)]
      exact i5 j h1 h2
set_option maxHeartbeats 4000000 in
set_option maxRecDepth 100000 in
theorem cx_Walk_init (l : Launch) (D : va_G) (cA : Nat → ClassId) (b n k0 : Nat) (hk0 : k0 < n) (g : Nat → va_E) (Y0 : g k0 = .inr (6, [.null, .null, .null, .null, .int 0, .int 0, .long 0])) (p1 p2 kb kg kz : Nat) (hp1 : p1 < n) (hp2 : p2 < n) (hkb : kb < n) (hkz : kz < n) (hn1 : p1 ≠ k0) (hnb : kb ≠ k0) {fb : Nat → Option Nat} (hB1 : g p1 = .inr (1, [.ref (b + kb), .ref (b + kg)])) (hB2 : g kb = .inl (cA 3, 48, .inr (.inr (.inr (.inr fb))))) (hB3 : fb 0 = some (b + kz)) : Met l yX6_init (wv yX6_init cX6_init 4 none) ({ frames := 3, cells := 92, slots := 2545, locals := 54 }) (va_Pc [.ref (b + k0), .ref (b + p1), .ref (b + p2)] (cxU D cA b n g)) (cxQ D b (n + 92) (cx_WalkI cA b n k0 p1 p2 kz g 10)) 92 2545 (cxA b) := by
  refine Met.ofW (cc := cX6_init) (maxL := 4) (ret := none) (by decide) rfl ?_
  intro p e s m args below meth c s₁ B hml hv
  obtain ⟨rfl, hP, hz, hK, hN⟩ := hv
  have hx := B.exec
  have hb := B.bytes
  have hr := B.returns
  have hts := atoms_spec (ws := wv yX6_init cX6_init 4 none) B.pre
  have hown : s.vm.findClass RX6 = some m.cls := findClass_of_methodNamed B.named
  have hlocks := B.notSynchronized
  have hin : meth.name = "<init>" := (name_of_methodNamed B.named B.method).1
  have hO : cxO D b n g s s.heap [] := ⟨hP, va_S.rf, hz⟩
  have hl := lv_entry ([.ref (b + k0), .ref (b + p1), .ref (b + p2)]) (n := 4) (Nat.le_of_ble_eq_true rfl)
  rw [lg_entry_eq]
  generalize (lg_sl ([.ref (b + k0), .ref (b + p1), .ref (b + p2)]) ++ List.replicate (4 - (lg_sl ([.ref (b + k0), .ref (b + p1), .ref (b + p2)])).length) Slot.unset).toArray = ls at hl ⊢
  have hl : lv_has ls 4 [(0, .ref (b + k0)), (1, .ref (b + p1)), (2, .ref (b + p2))] := hl
  have hgw := fun (w : Cond) (h : w ∈ gwW) => hts w (List.mem_cons_of_mem _ h)
  refine lv_aload_n hx hb dX6_init_0 rfl (lv_at hl 0 rfl) ?_
  refine W.objInit hx hb hown (hgw _ w_e6197cac) (hgw _ w_fba9d542) (hgw _ w_9febdb7e) rfl (by rw [hml]; exact hl.1) rfl dX6_init_1 (Nat.le_of_ble_eq_true rfl) (Nat.le_of_ble_eq_true rfl) ?_
  refine W.eq (g2 := F0 m 4 ls []) rfl ?_
  refine lv_aload_n hx hb dX6_init_4 rfl (lv_at hl 0 rfl) ?_
  refine lv_bipush (v := 10) hx hb dX6_init_5 (by decide) ?_
  refine cx_newq (cy := cA 4) hx hb hown (hgw _ w_72b4d173) (ao_use hN.2.2.2.2.2.1) (cx_ao (hK.2 4 _ rfl).2) hO (N' := 10) (by decide) rfl (by decide) (Nat.le_of_ble_eq_true rfl) (Nat.le_of_ble_eq_true rfl) dX6_init_7 (fun H hO => ?_)
  refine cx_putF (D := D) (cA := cA) (ci := 6) (v := .ref (b + n)) (ty := .array (.object "CallWalker$Frame")) (C := RX6) (T := TX6) (N := 7) hx hb hgw iwWalk tyX6 tyX6_ok nmX6 hown hK hO (q0 := k0) (by omega) (by rw [va_up_ne _ _ (by omega)]; exact Y0) rfl 2 (by decide) (hgw _ w_4a27d2bd) (fun _ h => h) rfl hin rfl (by decide +kernel) rfl rfl (Nat.le_of_ble_eq_true rfl) dX6_init_10 (fun H locs hO _ => ?_)
  refine lv_aload_n hx hb dX6_init_13 rfl (lv_at hl 0 rfl) ?_
  refine lv_iconst (v := 5) hx hb dX6_init_14 (by decide) ?_
  refine cx_newa (atype := .int) (cy := cA 0) (a0 := (5, .inl (fun _ => 0))) hx hb (hgw _ w_d160d5ac) (hK.2 0 _ rfl).2 hO (fun _ => rfl) (by decide) rfl (by decide) (Nat.le_of_ble_eq_true rfl) (Nat.le_of_ble_eq_true rfl) dX6_init_15 (fun H hO => ?_)
  refine cx_putF (D := D) (cA := cA) (ci := 6) (v := .ref (b + (n + 1))) (ty := .array .int) (C := RX6) (T := TX6) (N := 7) hx hb hgw iwWalk tyX6 tyX6_ok nmX6 hown hK hO (q0 := k0) (by omega) (by rw [va_up_ne _ _ (by omega), va_up_self]) rfl 3 (by decide) (hgw _ w_b50feff6) (fun _ h => h) rfl hin rfl (by decide +kernel) rfl rfl (Nat.le_of_ble_eq_true rfl) dX6_init_17 (fun H locs hO _ => ?_)
  refine lv_aload_n hx hb dX6_init_20 rfl (lv_at hl 0 rfl) ?_
  refine lv_iconst (v := 0) hx hb dX6_init_21 (by decide) ?_
  refine cx_put (D := D) (cA := cA) (ci := 6) (v := .int 0) (ty := .int) (C := RX6) (T := TX6) (N := 7) hx hb hgw iwWalk tyX6 tyX6_ok nmX6 hown hK hO (q0 := k0) (by omega) (va_up_self _ _ _) rfl 4 (by decide) (hgw _ w_b62a6067) (fun _ h => h) rfl (by decide +kernel) rfl rfl (Nat.le_of_ble_eq_true rfl) dX6_init_22 (fun H locs hO _ => ?_)
  refine lv_aload_n hx hb dX6_init_25 rfl (lv_at hl 0 rfl) ?_
  refine lv_iconst (v := 0) hx hb dX6_init_26 (by decide) ?_
  refine cx_put (D := D) (cA := cA) (ci := 6) (v := .int 0) (ty := .int) (C := RX6) (T := TX6) (N := 7) hx hb hgw iwWalk tyX6 tyX6_ok nmX6 hown hK hO (q0 := k0) (by omega) (va_up_self _ _ _) rfl 5 (by decide) (hgw _ w_166650d6) (fun _ h => h) rfl (by decide +kernel) rfl rfl (Nat.le_of_ble_eq_true rfl) dX6_init_27 (fun H locs hO _ => ?_)
  refine lv_aload_n hx hb dX6_init_30 rfl (lv_at hl 0 rfl) ?_
  refine lv_lconst (v := 0) hx hb dX6_init_31 (by decide) ?_
  refine cx_put (D := D) (cA := cA) (ci := 6) (v := .long 0) (ty := .long) (C := RX6) (T := TX6) (N := 7) hx hb hgw iwWalk tyX6 tyX6_ok nmX6 hown hK hO (q0 := k0) (by omega) (va_up_self _ _ _) rfl 6 (by decide) (hgw _ w_0e7c3207) (fun _ h => h) rfl (by decide +kernel) rfl rfl (Nat.le_of_ble_eq_true rfl) dX6_init_32 (fun H locs hO _ => ?_)
  refine lv_aload_n hx hb dX6_init_35 rfl (lv_at hl 0 rfl) ?_
  refine lv_aload_n hx hb dX6_init_36 rfl (lv_at hl 1 rfl) ?_
  refine cx_putF (D := D) (cA := cA) (ci := 6) (v := .ref (b + p1)) (ty := .object "CallWalker$Book") (C := RX6) (T := TX6) (N := 7) hx hb hgw iwWalk tyX6 tyX6_ok nmX6 hown hK hO (q0 := k0) (by omega) (va_up_self _ _ _) rfl 0 (by decide) (hgw _ w_6dd6e69a) (fun _ h => h) rfl hin rfl (by decide +kernel) rfl rfl (Nat.le_of_ble_eq_true rfl) dX6_init_37 (fun H locs hO _ => ?_)
  refine lv_aload_n hx hb dX6_init_40 rfl (lv_at hl 0 rfl) ?_
  refine lv_aload_n hx hb dX6_init_41 rfl (lv_at hl 2 rfl) ?_
  refine cx_putF (D := D) (cA := cA) (ci := 6) (v := .ref (b + p2)) (ty := .object "CallWalker$Ledger") (C := RX6) (T := TX6) (N := 7) hx hb hgw iwWalk tyX6 tyX6_ok nmX6 hown hK hO (q0 := k0) (by omega) (va_up_self _ _ _) rfl 1 (by decide) (hgw _ w_4f54f888) (fun _ h => h) rfl hin rfl (by decide +kernel) rfl rfl (Nat.le_of_ble_eq_true rfl) dX6_init_42 (fun H locs hO _ => ?_)
  refine lv_iconst (v := 0) hx hb dX6_init_45 (by decide) ?_
  refine lv_istore_n (lv' := [(3, .int 0), (0, .ref (b + k0)), (1, .ref (b + p1)), (2, .ref (b + p2))]) hx hb dX6_init_46 rfl hl (by decide) rfl (fun ls hl => ?_)
  refine W.widen (k := 2 + 9 * 0) (n := 15 + 253 * 0) (by decide) (by decide) ?_
  refine cx_Walk_loop hk0 hp1 hp2 hkb hkz hn1 hnb g hB1 hB2 hB3 ⟨hx, hb, hml, hown, hts⟩ hr hlocks hK hN 10 0 (by omega) _ H locs ls ⟨?_, ?_, ?_, ?_, ?_⟩ hO (lv_sub hl [1, 2, 3, 0] rfl)
  · rw [va_up_self]; rfl
  · simp only [va_up_ne _ _ (show n ≠ k0 by omega), va_up_ne _ _ (show n ≠ n + 1 by omega), va_up_self]; rfl
  · simp only [va_up_ne _ _ (show n + 1 ≠ k0 by omega), va_up_self]
  · intro j hj; omega
  · intro j h1 h2
    simp only [va_up_ne _ _ h2, va_up_ne _ _ (show j ≠ n by omega), va_up_ne _ _ (show j ≠ n + 1 by omega)]
