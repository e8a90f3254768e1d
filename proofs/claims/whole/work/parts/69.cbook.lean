set_option maxRecDepth 100000 in
theorem w_5ee55873 : Cond.classLink RX1 9 RX0 ∈ gwW := gw_at 59 rfl rfl
set_option maxRecDepth 100000 in
theorem w_6c1f891b : Cond.instantiable RX0 3 ∈ gwW := gw_at 61 rfl rfl
set_option maxRecDepth 100000 in
theorem w_00139fa4 : Cond.code yX0_init cX0_init 1 none ∈ gwW := gw_at 64 rfl rfl
set_option maxRecDepth 100000 in
theorem w_222f4c4f : Cond.instanceMethod yX0_init ∈ gwW := gw_at 63 rfl rfl
set_option maxRecDepth 100000 in
theorem w_49f9be5d : Cond.fieldLink RX1 17 "CallWalker$Book" "guarded" "[Z" ∈ gwW := gw_at 84 rfl rfl
set_option maxRecDepth 100000 in
theorem w_00c12ad1 : Cond.methodLink RX1 3 objectInit ∈ gwW := gw_at 58 rfl rfl
theorem cx_ast {p : Program} {l : Launch} {e : Env} {R : Room} {s : State} {m : MethodId} {args : Array Value} {below : List Frame} {meth : Method} {c : Code} {H : Heap} {locs : List Loc} {cells slots : Nat} {Q : State → Prop} {cc : ByteArray} {pc : Nat} {ls : Array Slot} {rest : List Value} {D : va_G} {cA : Nat → ClassId} {b n : Nat} {g : Nat → va_E} (hexec : p.tables.exec = Jvm.exec) (hb : c.code = cc) (hK : va_K D vwCl (rfTy cA) s) (hO : cxO D b n g s H locs) (ka kv t0 ci : Nat) (hka : ka < n) (hkv : kv < n) {cy : ClassId} {N : Nat} {f : Nat → Option Nat} {r : vw_C} {vs : List Value} (ha : g ka = .inl (cy, N, .inr (.inr (.inr (.inr f))))) (ht : (rfTy cA)[t0]? = some (cy, .object r.1)) (hv : g kv = .inr (ci, vs)) (hc : vwCl[ci]? = some r) {i : Int32} (hin : vp_in i N) (hdg : decode cc pc = .ok (.aastore, 1))
    (kk : ∀ (H1 : Heap) (locs1 : List Loc), cxO D b n (va_up g ka (.inl (cy, N, .inr (.inr (.inr (.inr (va_up f i.toNatClampNeg (some (b + kv))))))))) s H1 locs1 → W p l e R s m args below meth c H1 locs1 cells slots Q (F0 m (pc + 1) ls rest)) : W p l e R s m args below meth c H locs cells slots Q (F0 m pc ls (.ref (b + kv) :: .int i :: .ref (b + ka) :: rest)) := by
  have hlt : i.toNatClampNeg < N := Nat.not_le.mp fun q => hin (Or.inr q)
  have h0 : ¬ i < 0 := fun q => hin (Or.inl q)
  have ea := wd_get (ad := fun k => b + k) hka ha
  have ev := wd_get (ad := fun k => b + k) hkv hv
  obtain ⟨r', hr', cellV, g1, g2, g3, -⟩ := hO.1 kv _ ev
  have hcls := (hK.1 ci r hc).2
  obtain ⟨kA, comp, k1, k2, k3, -⟩ := (hK.2 t0 _ ht).2
  have hcomp : comp = D.1 ci := Option.some.inj (k3.symm.trans hcls.1)
  subst hcomp
  obtain ⟨kC, hkC, -⟩ := hcls.2
  refine W.aast hexec hb (hO.1 ka _ ea) (fun q h => by cases h) (fun h => by cases h) k1 k2 rfl hkC ⟨h0, by show _ < (arrV _ _ _).slots.size; rw [arrV_size]; exact hlt⟩ g1 (fun q h => by rw [g3] at h; cases h) (by rw [g2]; exact hkC) (by rw [g2]; exact va_assign hcls) rfl rfl hdg fun H1 e z oq => ?_
  refine kk H1 _ ⟨?_, hO.2.1.put z oq (Nat.le_add_right b ka), by rw [z]; exact hO.2.2⟩
  rw [← wd_up (ad := fun k => b + k) hka]
  refine hO.1.set (cx_D b n g) ea ?_ oq
  show H1[b + ka]? = some (vp_cell _ _)
  rw [e]
  rw [vp_cell_q, vp_cell_q, arrV_store]
  congr 2
  funext q
  by_cases hq : q = i.toNatClampNeg
  · subst hq
    simp [updV, va_up, va_rf]
  · simp [updV, va_up, hq]
theorem cx_clamp {i : Nat} (h : i < 1000) : (nI i).toNatClampNeg = i := by
  have e : (nI i).toInt = (i : Int) := by
    show (Int32.ofNat i).toInt = _
    rw [Int32.toInt_ofNat_of_lt (by omega)]
  show (nI i).toInt.toNat = i
  omega
def cx_BookI (cA : Nat → ClassId) (b n k0 : Nat) (g : Nat → va_E) (i : Nat) (g2 : Nat → va_E) : Prop := g2 k0 = .inr (1, [.ref (b + n), .ref (b + (n + 1))]) ∧ g2 n = .inl (cA 3, 48, .inr (.inr (.inr (.inr (fun j => if j < i then some (b + (n + 2 + 3 * j)) else none))))) ∧ g2 (n + 1) = .inl (cA 2, 8, .inl (fun _ => 0)) ∧ (∀ j, j < i → g2 (n + 2 + 3 * j) = .inr (0, [.ref (b + (n + 2 + 3 * j + 1)), .ref (b + (n + 2 + 3 * j + 2)), .int 0]) ∧ g2 (n + 2 + 3 * j + 1) = .inl (cA 0, 24, .inl (fun _ => 0)) ∧ g2 (n + 2 + 3 * j + 2) = .inl (cA 0, 24, .inl (fun _ => 0))) ∧ ∀ j, j < n → j ≠ k0 → g2 j = g j
set_option maxHeartbeats 4000000 in
set_option maxRecDepth 100000 in
theorem cx_Book_loop {l : Launch} {D : va_G} {cA : Nat → ClassId} {b n k0 : Nat} (hk0 : k0 < n) (g0 : Nat → va_E) {p : Program} {e : Env} {s : State} {m : MethodId} {args : Array Value} {below : List Frame} {meth : Method} {c : Code} (S : CallFix p m c cX1_init 2 s args (wv yX1_init cX1_init 2 none) RX1) (hr : meth.sig.returnType = none) (hlocks : meth.locks = false) (hK : va_K D vwCl (rfTy cA) s) (hN : cxN s) : ∀ (k i : Nat), i + k = 48 → ∀ (g : Nat → va_E) (H : Heap) (locs : List Loc) (ls : Array Slot), cx_BookI cA b n k0 g0 i g → cxO D b (n + 2 + 3 * i) g s H locs → lv_has ls 2 [(0, .ref (b + k0)), (1, .int (nI i))] → W p l e ({ frames := 2, cells := 146, slots := 2504, locals := 32 }) s m args below meth c H locs (2 + 3 * i) (56 + 51 * i) (MQ below (cxQ D b (n + 146) (cx_BookI cA b n k0 g0 48)) args s 146 2504 (cxA b)) (F0 m 23 ls []) := by
  obtain ⟨hx, hb, hml, hown, hts⟩ := S
  have hgw := fun (w : Cond) (h : w ∈ gwW) => hts w (List.mem_cons_of_mem _ h)
  intro k
  induction k with
  | zero =>
    intro i hi g H locs ls hI hO hl
    have hi : i = 48 := by omega
    subst hi
    refine lv_iload_n hx hb dX1_init_23 rfl (lv_at hl 1 rfl) ?_
    refine lv_bipush (v := 48) hx hb dX1_init_24 (by decide) ?_
    refine lv_icmp_ge (tgt := 48) hx hb dX1_init_26 (by decide) (fun _ => ?_) (fun c0 => absurd (by decide) c0)
    exact cx_vret hx hb hr hlocks hO hI dX1_init_48
  | succ k ih =>
    intro i hi g H locs ls hI hO hl
    have hlt : i < 48 := by omega
    have hcl : (nI i).toNatClampNeg = i := cx_clamp (by omega)
    refine lv_iload_n hx hb dX1_init_23 rfl (lv_at hl 1 rfl) ?_
    refine lv_bipush (v := 48) hx hb dX1_init_24 (by decide) ?_
    refine lv_icmp_ge (tgt := 48) hx hb dX1_init_26 (by decide) (fun c0 => ?_) (fun _ => ?_)
    · exfalso
      have q1 := Int32.le_iff_toInt_le.mp c0
      have q2 : (nI i).toInt.toNat = i := hcl
      have q3 : (48 : Int32).toInt = 48 := rfl
      omega
    obtain ⟨i1, i2, i3, i4, i5⟩ := hI
    refine lv_aload_n hx hb dX1_init_29 rfl (lv_at hl 0 rfl) ?_
    refine va_get (D := D) (ci := 1) (v := .ref (b + n)) (C := RX1) (T := TX1) (N := 2) hx hb hgw iwBook hown hK hO.1 k0 (wd_get (by omega) i1) rfl 0 (by decide) (hgw _ w_cc2d62dd) (fun _ h => h) rfl dX1_init_30 ?_
    refine lv_iload_n hx hb dX1_init_33 rfl (lv_at hl 1 rfl) ?_
    refine cx_new (ci := 0) (fs := [.null, .null, .int 0]) (C := RX0) (T := TX0) (N := 3) hx hb hgw iwBeh tyX0 tyX0_ok hown (hgw _ w_5ee55873) (hgw _ w_6c1f891b) (hgw _ w_644e7304) hK hO rfl (fun j hj => by rcases (show j = 0 ∨ j = 1 ∨ j = 2 by omega) with rfl | rfl | rfl <;> rfl) (by show 2 + 3 * i + 1 ≤ 146; omega) (by show 56 + 51 * i + 3 ≤ 2504; omega) dX1_init_34 (fun H hO => ?_)
    refine lv_dup hx hb dX1_init_37 rfl ?_
    refine cx_callv (va_runIN (As := []) (rest := [.ref (b + (n + 2 + 3 * i)), .int (nI i), .ref (b + n)]) ⟨hx, hb, hml, hown, hts⟩ (cx_Beh_init l D cA b (n + 2 + 3 * i + 1) (n + 2 + 3 * i) (by omega) _ (va_up_self _ _ _)) ⟨va_cnB 0 hts (gw_N w_00139fa4) rfl rfl rfl hN.2.1 (hgw _ w_644e7304) (by decide +kernel) ⟨Nat.le_of_ble_eq_true rfl, Nat.le_of_ble_eq_true rfl⟩, rfl, hgw _ w_222f4c4f⟩ (cx_preS hK hN hO) rfl rfl hl.1 rfl (lv_room (Nat.le_of_ble_eq_true rfl)) dX1_init_38 ⟨by show 2 + 3 * i + 1 + 2 ≤ 146; omega, by show 56 + 51 * i + 3 + 48 ≤ 2504; omega⟩) hO (fun g2 H locs hF hO => ?_)
    obtain ⟨f0, f1, f2, ffr⟩ := hF
    have j1 : g2 n = .inl (cA 3, 48, .inr (.inr (.inr (.inr (fun j => if j < i then some (b + (n + 2 + 3 * j)) else none))))) := by rw [ffr _ (by omega) (by omega), va_up_ne _ _ (by omega)]; exact i2
    refine cx_ast hx hb hK hO n (n + 2 + 3 * i) 3 0 (by omega) (by omega) j1 (r := (RX0, TX0, 3)) rfl f0 rfl (vp_in_nI hlt (by decide)) dX1_init_41 (fun H locs hO => ?_)
    rw [hcl] at hO
    refine lv_iinc (v := nI (i + 1)) (lv' := [(1, .int (nI (i + 1))), (0, .ref (b + k0))]) hx hb dX1_init_42 hl (k := 1) rfl (nI_1 i) (by decide) rfl (fun ls hl => ?_)
    refine lv_goto (tgt := 23) hx hb dX1_init_45 (by decide) ?_
    refine W.widen (k := 2 + 3 * (i + 1)) (n := 56 + 51 * (i + 1)) (by omega) (by omega) ?_
    have old : ∀ j, j < n + 2 + 3 * i → j ≠ n → va_up g2 n (.inl (cA 3, 48, .inr (.inr (.inr (.inr (va_up (fun j => if j < i then some (b + (n + 2 + 3 * j)) else none) i (some (b + (n + 2 + 3 * i))))))))) j = g j := fun j h1 h2 => by rw [va_up_ne _ _ h2, ffr _ (by omega) (by omega), va_up_ne _ _ (by omega)]
    refine ih (i + 1) (by omega) _ H locs ls ⟨?_, ?_, ?_, ?_, ?_⟩ (show cxO D b (n + 2 + 3 * (i + 1)) _ s H locs from by rw [show n + 2 + 3 * (i + 1) = n + 2 + 3 * i + 1 + 2 by omega]; exact hO) (lv_sub hl [1, 0] rfl)
    · rw [old _ (by omega) (by omega)]; exact i1
    · rw [va_up_self]
      congr 7
      funext j
      by_cases hj : j = i
      · subst hj
        rw [va_up_self, if_pos (by omega)]
      · rw [va_up_ne _ _ hj]
        by_cases hj2 : j < i
        · rw [if_pos hj2, if_pos (by omega)]
        · rw [if_neg hj2, if_neg (by omega)]
    · rw [old _ (by omega) (by omega)]; exact i3
    · intro j hj
      by_cases hj2 : j < i
      · rw [old _ (by omega) (by omega), old _ (by omega) (by omega), old _ (by omega) (by omega)]
        exact i4 j hj2
      · have : j = i := by omega
        subst this
        rw [va_up_ne _ _ (by omega), va_up_ne _ _ (by omega), va_up_ne _ _ (by omega)]
        exact ⟨f0, f1, f2⟩
    · intro j h1 h2
      rw [old _ (by omega) (by omega)]
      exact i5 j h1 h2
set_option maxHeartbeats 4000000 in
set_option maxRecDepth 100000 in
theorem cx_Book_init (l : Launch) (D : va_G) (cA : Nat → ClassId) (b n k0 : Nat) (hk0 : k0 < n) (g : Nat → va_E) (Y0 : g k0 = .inr (1, [.null, .null])) : Met l yX1_init (wv yX1_init cX1_init 2 none) ({ frames := 2, cells := 146, slots := 2504, locals := 32 }) (va_Pc [.ref (b + k0)] (cxU D cA b n g)) (cxQ D b (n + 146) (cx_BookI cA b n k0 g 48)) 146 2504 (cxA b) := by
  refine Met.ofW (cc := cX1_init) (maxL := 2) (ret := none) (by decide) rfl ?_
  intro p e s m args below meth c s₁ B hml hv
  obtain ⟨rfl, hP, hz, hK, hN⟩ := hv
  have hx := B.exec
  have hb := B.bytes
  have hr := B.returns
  have hts := atoms_spec (ws := wv yX1_init cX1_init 2 none) B.pre
  have hown : s.vm.findClass RX1 = some m.cls := findClass_of_methodNamed B.named
  have hlocks := B.notSynchronized
  have hin : meth.name = "<init>" := (name_of_methodNamed B.named B.method).1
  have hO : cxO D b n g s s.heap [] := ⟨hP, va_S.rf, hz⟩
  have hl := lv_entry ([.ref (b + k0)]) (n := 2) (Nat.le_of_ble_eq_true rfl)
  rw [lg_entry_eq]
  generalize (lg_sl ([.ref (b + k0)]) ++ List.replicate (2 - (lg_sl ([.ref (b + k0)])).length) Slot.unset).toArray = ls at hl ⊢
  have hl : lv_has ls 2 [(0, .ref (b + k0))] := hl
  have hgw := fun (w : Cond) (h : w ∈ gwW) => hts w (List.mem_cons_of_mem _ h)
  refine lv_aload_n hx hb dX1_init_0 rfl (lv_at hl 0 rfl) ?_
  refine W.objInit hx hb hown (hgw _ w_00c12ad1) (hgw _ w_fba9d542) (hgw _ w_9febdb7e) rfl (by rw [hml]; exact hl.1) rfl dX1_init_1 (Nat.le_of_ble_eq_true rfl) (Nat.le_of_ble_eq_true rfl) ?_
  refine W.eq (g2 := F0 m 4 ls []) rfl ?_
  refine lv_aload_n hx hb dX1_init_4 rfl (lv_at hl 0 rfl) ?_
  refine lv_bipush (v := 48) hx hb dX1_init_5 (by decide) ?_
  refine cx_newq (cy := cA 3) hx hb hown (hgw _ w_5ee55873) (ao_use hN.2.2.2.2.1) (cx_ao (hK.2 3 _ rfl).2) hO (N' := 48) (by decide) rfl (by decide) (Nat.le_of_ble_eq_true rfl) (Nat.le_of_ble_eq_true rfl) dX1_init_7 (fun H hO => ?_)
  refine cx_putF (D := D) (cA := cA) (ci := 1) (v := .ref (b + n)) (ty := .array (.object "CallWalker$Behaviour")) (C := RX1) (T := TX1) (N := 2) hx hb hgw iwBook tyX1 tyX1_ok nmX1 hown hK hO (q0 := k0) (by omega) (by rw [va_up_ne _ _ (by omega)]; exact Y0) rfl 0 (by decide) (hgw _ w_cc2d62dd) (fun _ h => h) rfl hin rfl (by decide +kernel) rfl rfl (Nat.le_of_ble_eq_true rfl) dX1_init_10 (fun H locs hO _ => ?_)
  refine lv_aload_n hx hb dX1_init_13 rfl (lv_at hl 0 rfl) ?_
  refine lv_bipush (v := 8) hx hb dX1_init_14 (by decide) ?_
  refine cx_newa (atype := .boolean) (cy := cA 2) (a0 := (8, .inl (fun _ => 0))) hx hb (hgw _ w_3be30871) (hK.2 2 _ rfl).2 hO (fun _ => rfl) (by decide) rfl (by decide) (Nat.le_of_ble_eq_true rfl) (Nat.le_of_ble_eq_true rfl) dX1_init_16 (fun H hO => ?_)
  refine cx_putF (D := D) (cA := cA) (ci := 1) (v := .ref (b + (n + 1))) (ty := .array .boolean) (C := RX1) (T := TX1) (N := 2) hx hb hgw iwBook tyX1 tyX1_ok nmX1 hown hK hO (q0 := k0) (by omega) (by rw [va_up_ne _ _ (by omega), va_up_self]) rfl 1 (by decide) (hgw _ w_49f9be5d) (fun _ h => h) rfl hin rfl (by decide +kernel) rfl rfl (Nat.le_of_ble_eq_true rfl) dX1_init_18 (fun H locs hO _ => ?_)
  refine lv_iconst (v := 0) hx hb dX1_init_21 (by decide) ?_
  refine lv_istore_n (lv' := [(1, .int 0), (0, .ref (b + k0))]) hx hb dX1_init_22 rfl hl (by decide) rfl (fun ls hl => ?_)
  refine W.widen (k := 2 + 3 * 0) (n := 56 + 51 * 0) (by decide) (by decide) ?_
  refine cx_Book_loop hk0 g ⟨hx, hb, hml, hown, hts⟩ hr hlocks hK hN 48 0 (by omega) _ H locs ls ⟨?_, ?_, ?_, ?_, ?_⟩ hO (lv_sub hl [1, 0] rfl)
  · rw [va_up_self]; rfl
  · rw [va_up_ne _ _ (by omega), va_up_ne _ _ (by omega), va_up_ne _ _ (by omega), va_up_self]; rfl
  · rw [va_up_ne _ _ (by omega), va_up_self]
  · intro j hj; omega
  · intro j h1 h2
    rw [va_up_ne _ _ (by omega), va_up_ne _ _ (by omega), va_up_ne _ _ (by omega), va_up_ne _ _ (by omega)]
