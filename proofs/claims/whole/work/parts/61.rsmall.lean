theorem rq_cat (r : Nat) : (rq r).category = 1 := by cases r <;> rfl
theorem zn_of {v : Int32} (h : (decide (v = 0) || decide (v = 1)) = true) : narrow .boolean (.int v) = .int v := by
  rcases Bool.or_eq_true _ _ ▸ h with h | h
  · rw [of_decide_eq_true h]; rfl
  · rw [of_decide_eq_true h]; rfl
/-- as Met.ofW, for a method of a class in which other methods are overridden by the machine -/
theorem Met.ofWF {l : Launch} {y : MethodName} {ws ws' : List Cond} {rm : Room} {Pc : Array Value → State → Prop} {Qc : Array Value → State → Outcome → State → Prop} {mc ms : Nat} {free : Addr → Prop} {cc : ByteArray} {maxL : Nat} {ret : Option FieldType}
    (hy : plainFor y = true) (hw : ws = Cond.code y cc maxL ret :: ws')
    (body : ∀ p e s m args below meth c s₁, BodyLoose p l y (headSpec ws rm) cc maxL ret e s m args below meth c s₁ → c.maxLocals = maxL → Pc args s →
      W p l e (headSpec ws rm).room s m args below meth c s.heap [] 0 0 (MQ below Qc args s mc ms free) (entryFrame m args maxL)) : Met l y ws rm Pc Qc mc ms free := by
  refine MetFree.of_bodySF (code := cc) (maxLocals := maxL) (ret := ret) hy ?_ ?_
  · intro args s m h hn
    obtain ⟨meth, c, h1, h2, h3, h4, h5, h6, -, -⟩ := Cond.code_spec hn (atoms_spec (ws := ws) h _ (by rw [hw]; exact List.mem_cons_self))
    exact ⟨meth, c, h1, h2, h3, h4, h5, h6⟩
  · intro p e s m args below meth c s₁ B hml hP _
    have hh0 : s₁.heap = s.heap := by rw [B.state]; rfl
    obtain ⟨t, a1, o, b1, b2, b3⟩ := body p e s m args below meth c s₁ B hml hP s₁ hh0 (Stand.of_body B)
    exact ⟨t, o, a1, b1, b2, ⟨b3.1, b3.2⟩⟩
-- CallWalkerModel thrown
def j_Mo_thrown (st : CwS) : Option (Int32 × CwS) :=
  some (gI st 6 0 0, st)
set_option maxHeartbeats 4000000 in
theorem x_Mo_thrown {st : CwS} {r : Int32} {st' : CwS} (h : j_Mo_thrown st = some (r, st')) : Ext st st' := by
  unfold j_Mo_thrown at h
  obtain ⟨-, rfl⟩ := ret2 h; exact (show Ext st _ from Ext.refl st)
set_option maxHeartbeats 4000000 in
set_option maxRecDepth 100000 in
theorem c_Mo_thrown (l : Launch) (D : va_G) (A : Nat → Prop) (b0 : Nat) (cA : Nat → ClassId) (st : CwS) (r : Int32) (st' : CwS) (h : j_Mo_thrown st = some (r, st')) : Met l yX9_thrown (wv yX9_thrown cX9_thrown 1 (some .int)) ({ frames := 0, cells := 0, slots := 0, locals := 0 }) (va_Pc [.ref b0] (rfU D A b0 cA st)) (rfQi D A b0 cA r st') (0) (0) A := by
  refine Met.ofW (cc := cX9_thrown) (maxL := 1) (ret := some .int) (by decide) rfl ?_
  intro p e s m args below meth c s₁ B hml hv
  obtain ⟨rfl, hP, hD, hz, hK⟩ := hv
  have hx := B.exec
  have hb := B.bytes
  have hr := B.returns
  have hts := atoms_spec (ws := wv yX9_thrown cX9_thrown 1 (some .int)) B.pre
  have hown : s.vm.findClass RX9 = some m.cls := findClass_of_methodNamed B.named
  have hlocks := B.notSynchronized
  have hO : rfO D A b0 cA s st s.heap [] := ⟨hP, hD, va_S.rf, hz⟩
  have hl := lv_entry ([.ref b0]) (n := 1) (Nat.le_of_ble_eq_true rfl)
  rw [lg_entry_eq]
  generalize (lg_sl ([.ref b0]) ++ List.replicate (1 - (lg_sl ([.ref b0])).length) Slot.unset).toArray = ls at hl ⊢
  have hl : lv_has ls 1 [(0, .ref b0)] := hl
  have hgw := fun (w : Cond) (h : w ∈ gwW) => hts w (List.mem_cons_of_mem _ h)
  have k45 := hgw _ w_072cb29f
  unfold j_Mo_thrown at h
  refine lv_aload_n hx hb dX9_thrown_0 rfl (lv_at hl 0 rfl) ?_
  refine gf_Mo_code hx hb hgw iwMo hown hK hO k45 dX9_thrown_1 ?_
  obtain ⟨rfl, rfl⟩ := ret2 h; exact rf_iret hx hb hr hlocks hO dX9_thrown_4
-- CallWalkerModel isIn
def j_Mo_isIn (a0 : Int32) (a1 : Int32) (a2 : Int32) (st : CwS) : Option (Int32 × CwS) :=
  if a0 < a1 then
    some ((0 : Int32), st)
  else
    if a2 < a0 then
      some ((0 : Int32), st)
    else
      some ((1 : Int32), st)
set_option maxHeartbeats 4000000 in
theorem x_Mo_isIn {a0 : Int32} {a1 : Int32} {a2 : Int32} {st : CwS} {r : Int32} {st' : CwS} (h : j_Mo_isIn a0 a1 a2 st = some (r, st')) : Ext st st' := by
  unfold j_Mo_isIn at h
  by_cases c1 : a0 < a1
  · have h := ite_t c1 h
    obtain ⟨-, rfl⟩ := ret2 h; exact (show Ext st _ from Ext.refl st)
  · have h := ite_f c1 h
    by_cases c2 : a2 < a0
    · have h := ite_t c2 h
      obtain ⟨-, rfl⟩ := ret2 h; exact (show Ext st _ from Ext.refl st)
    · have h := ite_f c2 h
      obtain ⟨-, rfl⟩ := ret2 h; exact (show Ext st _ from Ext.refl st)
set_option maxHeartbeats 4000000 in
set_option maxRecDepth 100000 in
theorem c_Mo_isIn (l : Launch) (D : va_G) (A : Nat → Prop) (b0 : Nat) (cA : Nat → ClassId) (st : CwS) (a0 : Int32) (a1 : Int32) (a2 : Int32) (r : Int32) (st' : CwS) (h : j_Mo_isIn a0 a1 a2 st = some (r, st')) : Met l yX9_isIn (wv yX9_isIn cX9_isIn 3 (some .boolean)) ({ frames := 0, cells := 0, slots := 0, locals := 0 }) (va_Pc [.int a0, .int a1, .int a2] (rfU D A b0 cA st)) (rfQi D A b0 cA r st') (0) (0) A := by
  refine Met.ofW (cc := cX9_isIn) (maxL := 3) (ret := some .boolean) (by decide) rfl ?_
  intro p e s m args below meth c s₁ B hml hv
  obtain ⟨rfl, hP, hD, hz, hK⟩ := hv
  have hx := B.exec
  have hb := B.bytes
  have hr := B.returns
  have hts := atoms_spec (ws := wv yX9_isIn cX9_isIn 3 (some .boolean)) B.pre
  have hown : s.vm.findClass RX9 = some m.cls := findClass_of_methodNamed B.named
  have hlocks := B.notSynchronized
  have hO : rfO D A b0 cA s st s.heap [] := ⟨hP, hD, va_S.rf, hz⟩
  have hl := lv_entry ([.int a0, .int a1, .int a2]) (n := 3) (Nat.le_of_ble_eq_true rfl)
  rw [lg_entry_eq]
  generalize (lg_sl ([.int a0, .int a1, .int a2]) ++ List.replicate (3 - (lg_sl ([.int a0, .int a1, .int a2])).length) Slot.unset).toArray = ls at hl ⊢
  have hl : lv_has ls 3 [(0, .int a0), (1, .int a1), (2, .int a2)] := hl
  have hgw := fun (w : Cond) (h : w ∈ gwW) => hts w (List.mem_cons_of_mem _ h)
  unfold j_Mo_isIn at h
  refine lv_iload_n hx hb dX9_isIn_0 rfl (lv_at hl 0 rfl) ?_
  refine lv_iload_n hx hb dX9_isIn_1 rfl (lv_at hl 1 rfl) ?_
  refine lv_icmp_lt (tgt := 14) hx hb dX9_isIn_2 (by decide) (fun c1 => ?_) (fun c1 => ?_)
  · have h := ite_t c1 h
    refine lv_iconst (v := 0) hx hb dX9_isIn_14 (by decide) ?_
    obtain ⟨rfl, rfl⟩ := ret2 h; exact rf_zret hx hb hr hlocks hO rfl dX9_isIn_15
  · have h := ite_f c1 h
    refine lv_iload_n hx hb dX9_isIn_5 rfl (lv_at hl 0 rfl) ?_
    refine lv_iload_n hx hb dX9_isIn_6 rfl (lv_at hl 2 rfl) ?_
    refine lv_icmp_gt (tgt := 14) hx hb dX9_isIn_7 (by decide) (fun c2 => ?_) (fun c2 => ?_)
    · have h := ite_t c2 h
      refine lv_iconst (v := 0) hx hb dX9_isIn_14 (by decide) ?_
      obtain ⟨rfl, rfl⟩ := ret2 h; exact rf_zret hx hb hr hlocks hO rfl dX9_isIn_15
    · have h := ite_f c2 h
      refine lv_iconst (v := 1) hx hb dX9_isIn_10 (by decide) ?_
      refine lv_goto (tgt := 15) hx hb dX9_isIn_11 (by decide) ?_
      obtain ⟨rfl, rfl⟩ := ret2 h; exact rf_zret hx hb hr hlocks hO rfl dX9_isIn_15
-- CallWalkerModel isContract
def j_Mo_isContract (a1 : Int32) (st : CwS) : Option (Int32 × CwS) :=
  bR (j_Mo_isIn a1 ((0 : Int32)) ((7 : Int32)) (sI st 6 0 0 ((0 : Int32)))) fun r1 st2 =>
  ck (decide (r1 = 0) || decide (r1 = 1)) <|
  some (r1, st2)
set_option maxHeartbeats 4000000 in
theorem x_Mo_isContract {a1 : Int32} {st : CwS} {r : Int32} {st' : CwS} (h : j_Mo_isContract a1 st = some (r, st')) : Ext st st' := by
  unfold j_Mo_isContract at h
  obtain ⟨r1, st2, h3, h⟩ := bR_some h
  refine Ext.trans (a := st) (b := st2) (by have t := x_Mo_isIn h3; exact t) ?_
  obtain ⟨-, h⟩ := ck_some h
  obtain ⟨-, rfl⟩ := ret2 h; exact (show Ext st2 _ from Ext.refl st2)
set_option maxHeartbeats 4000000 in
set_option maxRecDepth 100000 in
theorem c_Mo_isContract (l : Launch) (D : va_G) (A : Nat → Prop) (b0 : Nat) (cA : Nat → ClassId) (st : CwS) (a1 : Int32) (r : Int32) (st' : CwS) (h : j_Mo_isContract a1 st = some (r, st')) : Met l yX9_isContract (wv yX9_isContract cX9_isContract 2 (some .boolean)) ({ frames := 1, cells := 0, slots := 0, locals := 22 }) (va_Pc [.ref b0, .int a1] (rfU D A b0 cA st)) (rfQi D A b0 cA r st') (0) (0) A := by
  refine Met.ofW (cc := cX9_isContract) (maxL := 2) (ret := some .boolean) (by decide) rfl ?_
  intro p e s m args below meth c s₁ B hml hv
  obtain ⟨rfl, hP, hD, hz, hK⟩ := hv
  have hx := B.exec
  have hb := B.bytes
  have hr := B.returns
  have hts := atoms_spec (ws := wv yX9_isContract cX9_isContract 2 (some .boolean)) B.pre
  have hown : s.vm.findClass RX9 = some m.cls := findClass_of_methodNamed B.named
  have hlocks := B.notSynchronized
  have hO : rfO D A b0 cA s st s.heap [] := ⟨hP, hD, va_S.rf, hz⟩
  have hl := lv_entry ([.ref b0, .int a1]) (n := 2) (Nat.le_of_ble_eq_true rfl)
  rw [lg_entry_eq]
  generalize (lg_sl ([.ref b0, .int a1]) ++ List.replicate (2 - (lg_sl ([.ref b0, .int a1])).length) Slot.unset).toArray = ls at hl ⊢
  have hl : lv_has ls 2 [(0, .ref b0), (1, .int a1)] := hl
  have hgw := fun (w : Cond) (h : w ∈ gwW) => hts w (List.mem_cons_of_mem _ h)
  have k45 := hgw _ w_072cb29f
  unfold j_Mo_isContract at h
  refine lv_aload_n hx hb dX9_isContract_0 rfl (lv_at hl 0 rfl) ?_
  refine lv_iconst (v := 0) hx hb dX9_isContract_1 (by decide) ?_
  refine pf_Mo_code hx hb hgw iwMo hown hK hO k45 dX9_isContract_2 (fun H locs hO => ?_)
  refine lv_iload_n hx hb dX9_isContract_5 rfl (lv_at hl 1 rfl) ?_
  refine lv_iconst (v := 0) hx hb dX9_isContract_6 (by decide) ?_
  refine lv_bipush (v := 7) hx hb dX9_isContract_7 (by decide) ?_
  obtain ⟨r1, st2, h3, h⟩ := bR_some h
  have x_st2 : Ext st st2 := by have t := x_Mo_isIn h3; exact t
  refine rf_calli (va_runS (As := [.int a1, .int ((0 : Int32)), .int ((7 : Int32))]) (rest := []) ⟨hx, hb, hml, hown, hts⟩ (c_Mo_isIn l D A b0 cA (sI st 6 0 0 ((0 : Int32))) a1 ((0 : Int32)) ((7 : Int32)) r1 st2 h3) (va_cwS 3 hts (gw_S w_b104d635 w_dc566d63 w_18f41a94 w_c8674231) rfl rfl rfl (by decide +kernel) ⟨by show 0 + 1 ≤ 1; omega, by show 8 + (3 + 11) + (0) ≤ 22; omega⟩) (rf_preS hK hO) rfl rfl hl.1 rfl (lv_room (Nat.le_of_ble_eq_true rfl)) dX9_isContract_9 ⟨Nat.zero_le _, Nat.zero_le _⟩) hO (fun H locs hO => ?_)
  obtain ⟨hc4, h⟩ := ck_some h
  obtain ⟨rfl, rfl⟩ := ret2 h; exact rf_zret hx hb hr hlocks hO (zn_of hc4) dX9_isContract_12
-- CallWalkerModel isBehaviour
def j_Mo_isBehaviour (a1 : Int32) (a2 : Int32) (st : CwS) : Option (Int32 × CwS) :=
  bR (j_Mo_isContract a1 st) fun r1 st2 =>
  if r1 = ((0 : Int32)) then
    some ((0 : Int32), st2)
  else
    bR (j_Mo_isIn a2 ((0 : Int32)) ((5 : Int32)) st2) fun r5 st6 =>
    if r5 = ((0 : Int32)) then
      some ((0 : Int32), st6)
    else
      some ((1 : Int32), st6)
set_option maxHeartbeats 4000000 in
theorem x_Mo_isBehaviour {a1 : Int32} {a2 : Int32} {st : CwS} {r : Int32} {st' : CwS} (h : j_Mo_isBehaviour a1 a2 st = some (r, st')) : Ext st st' := by
  unfold j_Mo_isBehaviour at h
  obtain ⟨r1, st2, h3, h⟩ := bR_some h
  refine Ext.trans (a := st) (b := st2) (by have t := x_Mo_isContract h3; exact t) ?_
  by_cases c4 : r1 = ((0 : Int32))
  · have h := ite_t c4 h
    obtain ⟨-, rfl⟩ := ret2 h; exact (show Ext st2 _ from Ext.refl st2)
  · have h := ite_f c4 h
    obtain ⟨r5, st6, h7, h⟩ := bR_some h
    refine Ext.trans (a := st2) (b := st6) (by have t := x_Mo_isIn h7; exact t) ?_
    by_cases c8 : r5 = ((0 : Int32))
    · have h := ite_t c8 h
      obtain ⟨-, rfl⟩ := ret2 h; exact (show Ext st6 _ from Ext.refl st6)
    · have h := ite_f c8 h
      obtain ⟨-, rfl⟩ := ret2 h; exact (show Ext st6 _ from Ext.refl st6)
set_option maxHeartbeats 4000000 in
set_option maxRecDepth 100000 in
theorem c_Mo_isBehaviour (l : Launch) (D : va_G) (A : Nat → Prop) (b0 : Nat) (cA : Nat → ClassId) (st : CwS) (a1 : Int32) (a2 : Int32) (r : Int32) (st' : CwS) (h : j_Mo_isBehaviour a1 a2 st = some (r, st')) : Met l yX9_isBehaviour (wv yX9_isBehaviour cX9_isBehaviour 3 (some .boolean)) ({ frames := 2, cells := 0, slots := 0, locals := 43 }) (va_Pc [.ref b0, .int a1, .int a2] (rfU D A b0 cA st)) (rfQi D A b0 cA r st') (0) (0) A := by
  refine Met.ofW (cc := cX9_isBehaviour) (maxL := 3) (ret := some .boolean) (by decide) rfl ?_
  intro p e s m args below meth c s₁ B hml hv
  obtain ⟨rfl, hP, hD, hz, hK⟩ := hv
  have hx := B.exec
  have hb := B.bytes
  have hr := B.returns
  have hts := atoms_spec (ws := wv yX9_isBehaviour cX9_isBehaviour 3 (some .boolean)) B.pre
  have hown : s.vm.findClass RX9 = some m.cls := findClass_of_methodNamed B.named
  have hlocks := B.notSynchronized
  have hO : rfO D A b0 cA s st s.heap [] := ⟨hP, hD, va_S.rf, hz⟩
  have hl := lv_entry ([.ref b0, .int a1, .int a2]) (n := 3) (Nat.le_of_ble_eq_true rfl)
  rw [lg_entry_eq]
  generalize (lg_sl ([.ref b0, .int a1, .int a2]) ++ List.replicate (3 - (lg_sl ([.ref b0, .int a1, .int a2])).length) Slot.unset).toArray = ls at hl ⊢
  have hl : lv_has ls 3 [(0, .ref b0), (1, .int a1), (2, .int a2)] := hl
  have hgw := fun (w : Cond) (h : w ∈ gwW) => hts w (List.mem_cons_of_mem _ h)
  unfold j_Mo_isBehaviour at h
  refine lv_aload_n hx hb dX9_isBehaviour_0 rfl (lv_at hl 0 rfl) ?_
  refine lv_iload_n hx hb dX9_isBehaviour_1 rfl (lv_at hl 1 rfl) ?_
  obtain ⟨r1, st2, h3, h⟩ := bR_some h
  have x_st2 : Ext st st2 := by have t := x_Mo_isContract h3; exact t
  refine rf_calli (va_runV (As := [.int a1]) (rest := []) ⟨hx, hb, hml, hown, hts⟩ (c_Mo_isContract l D A b0 cA st a1 r1 st2 h3) (cwV 1 hts (gw_V w_2a3edacb w_154d6145 w_9fa83223 w_18f41a94 w_8fbfc78e) rfl rfl rfl (by decide +kernel) ⟨by show 1 + 1 ≤ 2; omega, by show 8 + (2 + 11) + (22) ≤ 43; omega⟩) (rf_preM hK hO) rfl rfl hl.1 rfl (lv_room (Nat.le_of_ble_eq_true rfl)) dX9_isBehaviour_2 ⟨Nat.zero_le _, Nat.zero_le _⟩) hO (fun H locs hO => ?_)
  refine lv_if_eq (tgt := 21) hx hb dX9_isBehaviour_5 (by decide) (fun c4 => ?_) (fun c4 => ?_)
  · have h := ite_t c4 h
    refine lv_iconst (v := 0) hx hb dX9_isBehaviour_21 (by decide) ?_
    obtain ⟨rfl, rfl⟩ := ret2 h; exact rf_zret hx hb hr hlocks hO rfl dX9_isBehaviour_22
  · have h := ite_f c4 h
    refine lv_iload_n hx hb dX9_isBehaviour_8 rfl (lv_at hl 2 rfl) ?_
    refine lv_iconst (v := 0) hx hb dX9_isBehaviour_9 (by decide) ?_
    refine lv_iconst (v := 5) hx hb dX9_isBehaviour_10 (by decide) ?_
    obtain ⟨r5, st6, h7, h⟩ := bR_some h
    have x_st6 : Ext st2 st6 := by have t := x_Mo_isIn h7; exact t
    refine rf_calli (va_runS (As := [.int a2, .int ((0 : Int32)), .int ((5 : Int32))]) (rest := []) ⟨hx, hb, hml, hown, hts⟩ (c_Mo_isIn l D A b0 cA st2 a2 ((0 : Int32)) ((5 : Int32)) r5 st6 h7) (va_cwS 3 hts (gw_S w_b104d635 w_dc566d63 w_18f41a94 w_c8674231) rfl rfl rfl (by decide +kernel) ⟨by show 0 + 1 ≤ 2; omega, by show 8 + (3 + 11) + (0) ≤ 43; omega⟩) (rf_preS hK hO) rfl rfl hl.1 rfl (lv_room (Nat.le_of_ble_eq_true rfl)) dX9_isBehaviour_11 ⟨Nat.zero_le _, Nat.zero_le _⟩) hO (fun H locs hO => ?_)
    refine lv_if_eq (tgt := 21) hx hb dX9_isBehaviour_14 (by decide) (fun c8 => ?_) (fun c8 => ?_)
    · have h := ite_t c8 h
      refine lv_iconst (v := 0) hx hb dX9_isBehaviour_21 (by decide) ?_
      obtain ⟨rfl, rfl⟩ := ret2 h; exact rf_zret hx hb hr hlocks hO rfl dX9_isBehaviour_22
    · have h := ite_f c8 h
      refine lv_iconst (v := 1) hx hb dX9_isBehaviour_17 (by decide) ?_
      refine lv_goto (tgt := 22) hx hb dX9_isBehaviour_18 (by decide) ?_
      obtain ⟨rfl, rfl⟩ := ret2 h; exact rf_zret hx hb hr hlocks hO rfl dX9_isBehaviour_22
-- CallWalkerModel step
def j_Mo_step (a1 : Int32) (a2 : Int32) (a3 : Int32) (a4 : Int32) (st : CwS) : Option (Int32 × CwS) :=
  bR (j_Mo_isBehaviour a1 a2 st) fun r1 st2 =>
  if r1 = ((0 : Int32)) then
    some ((-1 : Int32), st2)
  else
    ck (ix ((((6 : Int32)) * a1) + a2) 48) <|
    if (gI st2 2 0 (((((6 : Int32)) * a1) + a2).toNatClampNeg)) = ((24 : Int32)) then
      some ((-2 : Int32), st2)
    else
      ck (ix ((((6 : Int32)) * a1) + a2) 48) <|
      ck (ix ((((24 : Int32)) * ((((6 : Int32)) * a1) + a2)) + (gI st2 2 0 (((((6 : Int32)) * a1) + a2).toNatClampNeg))) 1152) <|
      ck (ix ((((6 : Int32)) * a1) + a2) 48) <|
      ck (ix ((((24 : Int32)) * ((((6 : Int32)) * a1) + a2)) + (gI (sI st2 0 0 (((((24 : Int32)) * ((((6 : Int32)) * a1) + a2)) + (gI st2 2 0 (((((6 : Int32)) * a1) + a2).toNatClampNeg))).toNatClampNeg) a3) 2 0 (((((6 : Int32)) * a1) + a2).toNatClampNeg))) 1152) <|
      ck (ix ((((6 : Int32)) * a1) + a2) 48) <|
      ck (ix ((((6 : Int32)) * a1) + a2) 48) <|
      ck (ix ((((6 : Int32)) * a1) + a2) 48) <|
      some (gI (sI (sI (sI st2 0 0 (((((24 : Int32)) * ((((6 : Int32)) * a1) + a2)) + (gI st2 2 0 (((((6 : Int32)) * a1) + a2).toNatClampNeg))).toNatClampNeg) a3) 1 0 (((((24 : Int32)) * ((((6 : Int32)) * a1) + a2)) + (gI (sI st2 0 0 (((((24 : Int32)) * ((((6 : Int32)) * a1) + a2)) + (gI st2 2 0 (((((6 : Int32)) * a1) + a2).toNatClampNeg))).toNatClampNeg) a3) 2 0 (((((6 : Int32)) * a1) + a2).toNatClampNeg))).toNatClampNeg) a4) 2 0 (((((6 : Int32)) * a1) + a2).toNatClampNeg) ((gI (sI (sI st2 0 0 (((((24 : Int32)) * ((((6 : Int32)) * a1) + a2)) + (gI st2 2 0 (((((6 : Int32)) * a1) + a2).toNatClampNeg))).toNatClampNeg) a3) 1 0 (((((24 : Int32)) * ((((6 : Int32)) * a1) + a2)) + (gI (sI st2 0 0 (((((24 : Int32)) * ((((6 : Int32)) * a1) + a2)) + (gI st2 2 0 (((((6 : Int32)) * a1) + a2).toNatClampNeg))).toNatClampNeg) a3) 2 0 (((((6 : Int32)) * a1) + a2).toNatClampNeg))).toNatClampNeg) a4) 2 0 (((((6 : Int32)) * a1) + a2).toNatClampNeg)) + ((1 : Int32)))) 2 0 (((((6 : Int32)) * a1) + a2).toNatClampNeg), sI (sI (sI st2 0 0 (((((24 : Int32)) * ((((6 : Int32)) * a1) + a2)) + (gI st2 2 0 (((((6 : Int32)) * a1) + a2).toNatClampNeg))).toNatClampNeg) a3) 1 0 (((((24 : Int32)) * ((((6 : Int32)) * a1) + a2)) + (gI (sI st2 0 0 (((((24 : Int32)) * ((((6 : Int32)) * a1) + a2)) + (gI st2 2 0 (((((6 : Int32)) * a1) + a2).toNatClampNeg))).toNatClampNeg) a3) 2 0 (((((6 : Int32)) * a1) + a2).toNatClampNeg))).toNatClampNeg) a4) 2 0 (((((6 : Int32)) * a1) + a2).toNatClampNeg) ((gI (sI (sI st2 0 0 (((((24 : Int32)) * ((((6 : Int32)) * a1) + a2)) + (gI st2 2 0 (((((6 : Int32)) * a1) + a2).toNatClampNeg))).toNatClampNeg) a3) 1 0 (((((24 : Int32)) * ((((6 : Int32)) * a1) + a2)) + (gI (sI st2 0 0 (((((24 : Int32)) * ((((6 : Int32)) * a1) + a2)) + (gI st2 2 0 (((((6 : Int32)) * a1) + a2).toNatClampNeg))).toNatClampNeg) a3) 2 0 (((((6 : Int32)) * a1) + a2).toNatClampNeg))).toNatClampNeg) a4) 2 0 (((((6 : Int32)) * a1) + a2).toNatClampNeg)) + ((1 : Int32))))
set_option maxHeartbeats 4000000 in
theorem x_Mo_step {a1 : Int32} {a2 : Int32} {a3 : Int32} {a4 : Int32} {st : CwS} {r : Int32} {st' : CwS} (h : j_Mo_step a1 a2 a3 a4 st = some (r, st')) : Ext st st' := by
  unfold j_Mo_step at h
  obtain ⟨r1, st2, h3, h⟩ := bR_some h
  refine Ext.trans (a := st) (b := st2) (by have t := x_Mo_isBehaviour h3; exact t) ?_
  by_cases c4 : r1 = ((0 : Int32))
  · have h := ite_t c4 h
    obtain ⟨-, rfl⟩ := ret2 h; exact (show Ext st2 _ from Ext.refl st2)
  · have h := ite_f c4 h
    obtain ⟨-, h⟩ := ck_some h
    by_cases c6 : (gI st2 2 0 (((((6 : Int32)) * a1) + a2).toNatClampNeg)) = ((24 : Int32))
    · have h := ite_t c6 h
      obtain ⟨-, rfl⟩ := ret2 h; exact (show Ext st2 _ from Ext.refl st2)
    · have h := ite_f c6 h
      obtain ⟨-, h⟩ := ck_some h
      obtain ⟨-, h⟩ := ck_some h
      obtain ⟨-, h⟩ := ck_some h
      obtain ⟨-, h⟩ := ck_some h
      obtain ⟨-, h⟩ := ck_some h
      obtain ⟨-, h⟩ := ck_some h
      obtain ⟨-, h⟩ := ck_some h
      obtain ⟨-, rfl⟩ := ret2 h; exact (show Ext st2 _ from Ext.refl st2)
set_option maxHeartbeats 4000000 in
set_option maxRecDepth 100000 in
theorem c_Mo_step (l : Launch) (D : va_G) (A : Nat → Prop) (b0 : Nat) (cA : Nat → ClassId) (st : CwS) (a1 : Int32) (a2 : Int32) (a3 : Int32) (a4 : Int32) (r : Int32) (st' : CwS) (h : j_Mo_step a1 a2 a3 a4 st = some (r, st')) : Met l yX9_step (wv yX9_step cX9_step 6 (some .int)) ({ frames := 3, cells := 0, slots := 0, locals := 65 }) (va_Pc [.ref b0, .int a1, .int a2, .int a3, .int a4] (rfU D A b0 cA st)) (rfQi D A b0 cA r st') (0) (0) A := by
  refine Met.ofW (cc := cX9_step) (maxL := 6) (ret := some .int) (by decide) rfl ?_
  intro p e s m args below meth c s₁ B hml hv
  obtain ⟨rfl, hP, hD, hz, hK⟩ := hv
  have hx := B.exec
  have hb := B.bytes
  have hr := B.returns
  have hts := atoms_spec (ws := wv yX9_step cX9_step 6 (some .int)) B.pre
  have hown : s.vm.findClass RX9 = some m.cls := findClass_of_methodNamed B.named
  have hlocks := B.notSynchronized
  have hO : rfO D A b0 cA s st s.heap [] := ⟨hP, hD, va_S.rf, hz⟩
  have hl := lv_entry ([.ref b0, .int a1, .int a2, .int a3, .int a4]) (n := 6) (Nat.le_of_ble_eq_true rfl)
  rw [lg_entry_eq]
  generalize (lg_sl ([.ref b0, .int a1, .int a2, .int a3, .int a4]) ++ List.replicate (6 - (lg_sl ([.ref b0, .int a1, .int a2, .int a3, .int a4])).length) Slot.unset).toArray = ls at hl ⊢
  have hl : lv_has ls 6 [(0, .ref b0), (1, .int a1), (2, .int a2), (3, .int a3), (4, .int a4)] := hl
  have hgw := fun (w : Cond) (h : w ∈ gwW) => hts w (List.mem_cons_of_mem _ h)
  have k9 := hgw _ w_021ca238
  have k13 := hgw _ w_eb510d35
  have k16 := hgw _ w_18ab44c4
  unfold j_Mo_step at h
  refine lv_aload_n hx hb dX9_step_0 rfl (lv_at hl 0 rfl) ?_
  refine lv_iload_n hx hb dX9_step_1 rfl (lv_at hl 1 rfl) ?_
  refine lv_iload_n hx hb dX9_step_2 rfl (lv_at hl 2 rfl) ?_
  obtain ⟨r1, st2, h3, h⟩ := bR_some h
  have x_st2 : Ext st st2 := by have t := x_Mo_isBehaviour h3; exact t
  refine rf_calli (va_runV (As := [.int a1, .int a2]) (rest := []) ⟨hx, hb, hml, hown, hts⟩ (c_Mo_isBehaviour l D A b0 cA st a1 a2 r1 st2 h3) (cwV 2 hts (gw_V w_b230e3ee w_20c22ce8 w_9427cb5f w_18f41a94 w_4419c06f) rfl rfl rfl (by decide +kernel) ⟨by show 2 + 1 ≤ 3; omega, by show 8 + (3 + 11) + (43) ≤ 65; omega⟩) (rf_preM hK hO) rfl rfl hl.1 rfl (lv_room (Nat.le_of_ble_eq_true rfl)) dX9_step_3 ⟨Nat.zero_le _, Nat.zero_le _⟩) hO (fun H locs hO => ?_)
  refine lv_if_ne (tgt := 11) hx hb dX9_step_6 (by decide) (fun c4 => ?_) (fun c4 => ?_)
  · have h := ite_f c4 h
    refine lv_bipush (v := 6) hx hb dX9_step_11 (by decide) ?_
    refine lv_iload_n hx hb dX9_step_13 rfl (lv_at hl 1 rfl) ?_
    refine lv_imul hx hb dX9_step_14 ?_
    refine lv_iload_n hx hb dX9_step_15 rfl (lv_at hl 2 rfl) ?_
    refine lv_iadd hx hb dX9_step_16 ?_
    refine lv_istore (lv' := [(5, .int ((((6 : Int32)) * a1) + a2)), (0, .ref b0), (1, .int a1), (2, .int a2), (3, .int a3), (4, .int a4)]) hx hb dX9_step_17 hl (by decide) rfl (fun ls hl => ?_)
    refine lv_aload_n hx hb dX9_step_19 rfl (lv_at hl 1 rfl) ?_
    refine gf_Mo_sizes hx hb hgw iwMo hown hK hO k16 dX9_step_20 ?_
    refine lv_iload hx hb dX9_step_23 (lv_at hl 0 rfl) ?_
    obtain ⟨hc5, h⟩ := ck_some h
    refine al_MSizes hx hb hK hO hc5 dX9_step_25 ?_
    refine lv_bipush (v := 24) hx hb dX9_step_26 (by decide) ?_
    refine lv_icmp_ne (tgt := 34) hx hb dX9_step_28 (by decide) (fun c6 => ?_) (fun c6 => ?_)
    · have h := ite_f c6 h
      refine lv_aload_n hx hb dX9_step_34 rfl (lv_at hl 1 rfl) ?_
      refine gf_Mo_codes hx hb hgw iwMo hown hK hO k9 dX9_step_35 ?_
      refine lv_bipush (v := 24) hx hb dX9_step_38 (by decide) ?_
      refine lv_iload hx hb dX9_step_40 (lv_at hl 0 rfl) ?_
      refine lv_imul hx hb dX9_step_42 ?_
      refine lv_aload_n hx hb dX9_step_43 rfl (lv_at hl 1 rfl) ?_
      refine gf_Mo_sizes hx hb hgw iwMo hown hK hO k16 dX9_step_44 ?_
      refine lv_iload hx hb dX9_step_47 (lv_at hl 0 rfl) ?_
      obtain ⟨hc7, h⟩ := ck_some h
      refine al_MSizes hx hb hK hO hc7 dX9_step_49 ?_
      refine lv_iadd hx hb dX9_step_50 ?_
      refine lv_iload_n hx hb dX9_step_51 rfl (lv_at hl 4 rfl) ?_
      obtain ⟨hc8, h⟩ := ck_some h
      refine as_MCodes hx hb hK hO hc8 dX9_step_52 (fun H locs hO => ?_)
      refine lv_aload_n hx hb dX9_step_53 rfl (lv_at hl 1 rfl) ?_
      refine gf_Mo_numbers hx hb hgw iwMo hown hK hO k13 dX9_step_54 ?_
      refine lv_bipush (v := 24) hx hb dX9_step_57 (by decide) ?_
      refine lv_iload hx hb dX9_step_59 (lv_at hl 0 rfl) ?_
      refine lv_imul hx hb dX9_step_61 ?_
      refine lv_aload_n hx hb dX9_step_62 rfl (lv_at hl 1 rfl) ?_
      refine gf_Mo_sizes hx hb hgw iwMo hown hK hO k16 dX9_step_63 ?_
      refine lv_iload hx hb dX9_step_66 (lv_at hl 0 rfl) ?_
      obtain ⟨hc9, h⟩ := ck_some h
      refine al_MSizes hx hb hK hO hc9 dX9_step_68 ?_
      refine lv_iadd hx hb dX9_step_69 ?_
      refine lv_iload hx hb dX9_step_70 (lv_at hl 5 rfl) ?_
      obtain ⟨hc10, h⟩ := ck_some h
      refine as_MNums hx hb hK hO hc10 dX9_step_72 (fun H locs hO => ?_)
      refine lv_aload_n hx hb dX9_step_73 rfl (lv_at hl 1 rfl) ?_
      refine gf_Mo_sizes hx hb hgw iwMo hown hK hO k16 dX9_step_74 ?_
      refine lv_iload hx hb dX9_step_77 (lv_at hl 0 rfl) ?_
      refine lv_dup2_11 hx hb dX9_step_79 rfl rfl ?_
      obtain ⟨hc11, h⟩ := ck_some h
      refine al_MSizes hx hb hK hO hc11 dX9_step_80 ?_
      refine lv_iconst (v := 1) hx hb dX9_step_81 (by decide) ?_
      refine lv_iadd hx hb dX9_step_82 ?_
      obtain ⟨hc12, h⟩ := ck_some h
      refine as_MSizes hx hb hK hO hc12 dX9_step_83 (fun H locs hO => ?_)
      refine lv_aload_n hx hb dX9_step_84 rfl (lv_at hl 1 rfl) ?_
      refine gf_Mo_sizes hx hb hgw iwMo hown hK hO k16 dX9_step_85 ?_
      refine lv_iload hx hb dX9_step_88 (lv_at hl 0 rfl) ?_
      obtain ⟨hc13, h⟩ := ck_some h
      refine al_MSizes hx hb hK hO hc13 dX9_step_90 ?_
      obtain ⟨rfl, rfl⟩ := ret2 h; exact rf_iret hx hb hr hlocks hO dX9_step_91
    · have h := ite_t c6 h
      refine lv_bipush (v := -2) hx hb dX9_step_31 (by decide) ?_
      obtain ⟨rfl, rfl⟩ := ret2 h; exact rf_iret hx hb hr hlocks hO dX9_step_33
  · have h := ite_t c4 h
    refine lv_iconst (v := -1) hx hb dX9_step_9 (by decide) ?_
    obtain ⟨rfl, rfl⟩ := ret2 h; exact rf_iret hx hb hr hlocks hO dX9_step_10
-- CallWalkerModel empty
def j_Mo_empty (a1 : Int32) (a2 : Int32) (st : CwS) : Option (Int32 × CwS) :=
  bR (j_Mo_isBehaviour a1 a2 st) fun r1 st2 =>
  if r1 = ((0 : Int32)) then
    some ((-1 : Int32), st2)
  else
    ck (ix ((((6 : Int32)) * a1) + a2) 48) <|
    ck (ix ((((6 : Int32)) * a1) + a2) 48) <|
    some (gI st2 2 0 (((((6 : Int32)) * a1) + a2).toNatClampNeg), sI st2 2 0 (((((6 : Int32)) * a1) + a2).toNatClampNeg) ((0 : Int32)))
set_option maxHeartbeats 4000000 in
theorem x_Mo_empty {a1 : Int32} {a2 : Int32} {st : CwS} {r : Int32} {st' : CwS} (h : j_Mo_empty a1 a2 st = some (r, st')) : Ext st st' := by
  unfold j_Mo_empty at h
  obtain ⟨r1, st2, h3, h⟩ := bR_some h
  refine Ext.trans (a := st) (b := st2) (by have t := x_Mo_isBehaviour h3; exact t) ?_
  by_cases c4 : r1 = ((0 : Int32))
  · have h := ite_t c4 h
    obtain ⟨-, rfl⟩ := ret2 h; exact (show Ext st2 _ from Ext.refl st2)
  · have h := ite_f c4 h
    obtain ⟨-, h⟩ := ck_some h
    obtain ⟨-, h⟩ := ck_some h
    obtain ⟨-, rfl⟩ := ret2 h; exact (show Ext st2 _ from Ext.refl st2)
set_option maxHeartbeats 4000000 in
set_option maxRecDepth 100000 in
theorem c_Mo_empty (l : Launch) (D : va_G) (A : Nat → Prop) (b0 : Nat) (cA : Nat → ClassId) (st : CwS) (a1 : Int32) (a2 : Int32) (r : Int32) (st' : CwS) (h : j_Mo_empty a1 a2 st = some (r, st')) : Met l yX9_empty (wv yX9_empty cX9_empty 5 (some .int)) ({ frames := 3, cells := 0, slots := 0, locals := 65 }) (va_Pc [.ref b0, .int a1, .int a2] (rfU D A b0 cA st)) (rfQi D A b0 cA r st') (0) (0) A := by
  refine Met.ofW (cc := cX9_empty) (maxL := 5) (ret := some .int) (by decide) rfl ?_
  intro p e s m args below meth c s₁ B hml hv
  obtain ⟨rfl, hP, hD, hz, hK⟩ := hv
  have hx := B.exec
  have hb := B.bytes
  have hr := B.returns
  have hts := atoms_spec (ws := wv yX9_empty cX9_empty 5 (some .int)) B.pre
  have hown : s.vm.findClass RX9 = some m.cls := findClass_of_methodNamed B.named
  have hlocks := B.notSynchronized
  have hO : rfO D A b0 cA s st s.heap [] := ⟨hP, hD, va_S.rf, hz⟩
  have hl := lv_entry ([.ref b0, .int a1, .int a2]) (n := 5) (Nat.le_of_ble_eq_true rfl)
  rw [lg_entry_eq]
  generalize (lg_sl ([.ref b0, .int a1, .int a2]) ++ List.replicate (5 - (lg_sl ([.ref b0, .int a1, .int a2])).length) Slot.unset).toArray = ls at hl ⊢
  have hl : lv_has ls 5 [(0, .ref b0), (1, .int a1), (2, .int a2)] := hl
  have hgw := fun (w : Cond) (h : w ∈ gwW) => hts w (List.mem_cons_of_mem _ h)
  have k16 := hgw _ w_18ab44c4
  unfold j_Mo_empty at h
  refine lv_aload_n hx hb dX9_empty_0 rfl (lv_at hl 0 rfl) ?_
  refine lv_iload_n hx hb dX9_empty_1 rfl (lv_at hl 1 rfl) ?_
  refine lv_iload_n hx hb dX9_empty_2 rfl (lv_at hl 2 rfl) ?_
  obtain ⟨r1, st2, h3, h⟩ := bR_some h
  have x_st2 : Ext st st2 := by have t := x_Mo_isBehaviour h3; exact t
  refine rf_calli (va_runV (As := [.int a1, .int a2]) (rest := []) ⟨hx, hb, hml, hown, hts⟩ (c_Mo_isBehaviour l D A b0 cA st a1 a2 r1 st2 h3) (cwV 2 hts (gw_V w_b230e3ee w_20c22ce8 w_9427cb5f w_18f41a94 w_4419c06f) rfl rfl rfl (by decide +kernel) ⟨by show 2 + 1 ≤ 3; omega, by show 8 + (3 + 11) + (43) ≤ 65; omega⟩) (rf_preM hK hO) rfl rfl hl.1 rfl (lv_room (Nat.le_of_ble_eq_true rfl)) dX9_empty_3 ⟨Nat.zero_le _, Nat.zero_le _⟩) hO (fun H locs hO => ?_)
  refine lv_if_ne (tgt := 11) hx hb dX9_empty_6 (by decide) (fun c4 => ?_) (fun c4 => ?_)
  · have h := ite_f c4 h
    refine lv_bipush (v := 6) hx hb dX9_empty_11 (by decide) ?_
    refine lv_iload_n hx hb dX9_empty_13 rfl (lv_at hl 1 rfl) ?_
    refine lv_imul hx hb dX9_empty_14 ?_
    refine lv_iload_n hx hb dX9_empty_15 rfl (lv_at hl 2 rfl) ?_
    refine lv_iadd hx hb dX9_empty_16 ?_
    refine lv_istore_n (lv' := [(3, .int ((((6 : Int32)) * a1) + a2)), (0, .ref b0), (1, .int a1), (2, .int a2)]) hx hb dX9_empty_17 rfl hl (by decide) rfl (fun ls hl => ?_)
    refine lv_aload_n hx hb dX9_empty_18 rfl (lv_at hl 1 rfl) ?_
    refine gf_Mo_sizes hx hb hgw iwMo hown hK hO k16 dX9_empty_19 ?_
    refine lv_iload_n hx hb dX9_empty_22 rfl (lv_at hl 0 rfl) ?_
    obtain ⟨hc5, h⟩ := ck_some h
    refine al_MSizes hx hb hK hO hc5 dX9_empty_23 ?_
    refine lv_istore (lv' := [(4, .int (gI st2 2 0 (((((6 : Int32)) * a1) + a2).toNatClampNeg))), (3, .int ((((6 : Int32)) * a1) + a2)), (0, .ref b0), (1, .int a1), (2, .int a2)]) hx hb dX9_empty_24 hl (by decide) rfl (fun ls hl => ?_)
    refine lv_aload_n hx hb dX9_empty_26 rfl (lv_at hl 2 rfl) ?_
    refine gf_Mo_sizes hx hb hgw iwMo hown hK hO k16 dX9_empty_27 ?_
    refine lv_iload_n hx hb dX9_empty_30 rfl (lv_at hl 1 rfl) ?_
    refine lv_iconst (v := 0) hx hb dX9_empty_31 (by decide) ?_
    obtain ⟨hc6, h⟩ := ck_some h
    refine as_MSizes hx hb hK hO hc6 dX9_empty_32 (fun H locs hO => ?_)
    refine lv_iload hx hb dX9_empty_33 (lv_at hl 0 rfl) ?_
    obtain ⟨rfl, rfl⟩ := ret2 h; exact rf_iret hx hb hr hlocks hO dX9_empty_35
  · have h := ite_t c4 h
    refine lv_iconst (v := -1) hx hb dX9_empty_9 (by decide) ?_
    obtain ⟨rfl, rfl⟩ := ret2 h; exact rf_iret hx hb hr hlocks hO dX9_empty_10
-- CallWalkerModel guard
def j_Mo_guard (a1 : Int32) (a2 : Int32) (st : CwS) : Option (Int32 × CwS) :=
  bR (j_Mo_isContract a1 st) fun r1 st2 =>
  if r1 = ((0 : Int32)) then
    some ((-1 : Int32), st2)
  else
    ck (ix a1 8) <|
    ck (ix a1 8) <|
    if (gI st2 3 0 a1.toNatClampNeg) = ((0 : Int32)) then
      some ((0 : Int32), sI st2 3 0 a1.toNatClampNeg (vp_nar .boolean a2))
    else
      some ((1 : Int32), sI st2 3 0 a1.toNatClampNeg (vp_nar .boolean a2))
set_option maxHeartbeats 4000000 in
theorem x_Mo_guard {a1 : Int32} {a2 : Int32} {st : CwS} {r : Int32} {st' : CwS} (h : j_Mo_guard a1 a2 st = some (r, st')) : Ext st st' := by
  unfold j_Mo_guard at h
  obtain ⟨r1, st2, h3, h⟩ := bR_some h
  refine Ext.trans (a := st) (b := st2) (by have t := x_Mo_isContract h3; exact t) ?_
  by_cases c4 : r1 = ((0 : Int32))
  · have h := ite_t c4 h
    obtain ⟨-, rfl⟩ := ret2 h; exact (show Ext st2 _ from Ext.refl st2)
  · have h := ite_f c4 h
    obtain ⟨-, h⟩ := ck_some h
    obtain ⟨-, h⟩ := ck_some h
    by_cases c7 : (gI st2 3 0 a1.toNatClampNeg) = ((0 : Int32))
    · have h := ite_t c7 h
      obtain ⟨-, rfl⟩ := ret2 h; exact (show Ext st2 _ from Ext.refl st2)
    · have h := ite_f c7 h
      obtain ⟨-, rfl⟩ := ret2 h; exact (show Ext st2 _ from Ext.refl st2)
set_option maxHeartbeats 4000000 in
set_option maxRecDepth 100000 in
theorem c_Mo_guard (l : Launch) (D : va_G) (A : Nat → Prop) (b0 : Nat) (cA : Nat → ClassId) (st : CwS) (a1 : Int32) (a2 : Int32) (r : Int32) (st' : CwS) (h : j_Mo_guard a1 a2 st = some (r, st')) : Met l yX9_guard (wv yX9_guard cX9_guard 4 (some .int)) ({ frames := 2, cells := 0, slots := 0, locals := 43 }) (va_Pc [.ref b0, .int a1, .int a2] (rfU D A b0 cA st)) (rfQi D A b0 cA r st') (0) (0) A := by
  refine Met.ofW (cc := cX9_guard) (maxL := 4) (ret := some .int) (by decide) rfl ?_
  intro p e s m args below meth c s₁ B hml hv
  obtain ⟨rfl, hP, hD, hz, hK⟩ := hv
  have hx := B.exec
  have hb := B.bytes
  have hr := B.returns
  have hts := atoms_spec (ws := wv yX9_guard cX9_guard 4 (some .int)) B.pre
  have hown : s.vm.findClass RX9 = some m.cls := findClass_of_methodNamed B.named
  have hlocks := B.notSynchronized
  have hO : rfO D A b0 cA s st s.heap [] := ⟨hP, hD, va_S.rf, hz⟩
  have hl := lv_entry ([.ref b0, .int a1, .int a2]) (n := 4) (Nat.le_of_ble_eq_true rfl)
  rw [lg_entry_eq]
  generalize (lg_sl ([.ref b0, .int a1, .int a2]) ++ List.replicate (4 - (lg_sl ([.ref b0, .int a1, .int a2])).length) Slot.unset).toArray = ls at hl ⊢
  have hl : lv_has ls 4 [(0, .ref b0), (1, .int a1), (2, .int a2)] := hl
  have hgw := fun (w : Cond) (h : w ∈ gwW) => hts w (List.mem_cons_of_mem _ h)
  have k19 := hgw _ w_efb03767
  unfold j_Mo_guard at h
  refine lv_aload_n hx hb dX9_guard_0 rfl (lv_at hl 0 rfl) ?_
  refine lv_iload_n hx hb dX9_guard_1 rfl (lv_at hl 1 rfl) ?_
  obtain ⟨r1, st2, h3, h⟩ := bR_some h
  have x_st2 : Ext st st2 := by have t := x_Mo_isContract h3; exact t
  refine rf_calli (va_runV (As := [.int a1]) (rest := []) ⟨hx, hb, hml, hown, hts⟩ (c_Mo_isContract l D A b0 cA st a1 r1 st2 h3) (cwV 1 hts (gw_V w_2a3edacb w_154d6145 w_9fa83223 w_18f41a94 w_8fbfc78e) rfl rfl rfl (by decide +kernel) ⟨by show 1 + 1 ≤ 2; omega, by show 8 + (2 + 11) + (22) ≤ 43; omega⟩) (rf_preM hK hO) rfl rfl hl.1 rfl (lv_room (Nat.le_of_ble_eq_true rfl)) dX9_guard_2 ⟨Nat.zero_le _, Nat.zero_le _⟩) hO (fun H locs hO => ?_)
  refine lv_if_ne (tgt := 10) hx hb dX9_guard_5 (by decide) (fun c4 => ?_) (fun c4 => ?_)
  · have h := ite_f c4 h
    refine lv_aload_n hx hb dX9_guard_10 rfl (lv_at hl 0 rfl) ?_
    refine gf_Mo_guarded hx hb hgw iwMo hown hK hO k19 dX9_guard_11 ?_
    refine lv_iload_n hx hb dX9_guard_14 rfl (lv_at hl 1 rfl) ?_
    obtain ⟨hc5, h⟩ := ck_some h
    refine al_MGuard hx hb hK hO hc5 dX9_guard_15 ?_
    refine lv_istore_n (lv' := [(3, .int (gI st2 3 0 a1.toNatClampNeg)), (0, .ref b0), (1, .int a1), (2, .int a2)]) hx hb dX9_guard_16 rfl hl (by decide) rfl (fun ls hl => ?_)
    refine lv_aload_n hx hb dX9_guard_17 rfl (lv_at hl 1 rfl) ?_
    refine gf_Mo_guarded hx hb hgw iwMo hown hK hO k19 dX9_guard_18 ?_
    refine lv_iload_n hx hb dX9_guard_21 rfl (lv_at hl 2 rfl) ?_
    refine lv_iload_n hx hb dX9_guard_22 rfl (lv_at hl 3 rfl) ?_
    obtain ⟨hc6, h⟩ := ck_some h
    refine as_MGuard hx hb hK hO hc6 dX9_guard_23 (fun H locs hO => ?_)
    refine lv_iload_n hx hb dX9_guard_24 rfl (lv_at hl 0 rfl) ?_
    refine lv_if_eq (tgt := 32) hx hb dX9_guard_25 (by decide) (fun c7 => ?_) (fun c7 => ?_)
    · have h := ite_t c7 h
      refine lv_iconst (v := 0) hx hb dX9_guard_32 (by decide) ?_
      obtain ⟨rfl, rfl⟩ := ret2 h; exact rf_iret hx hb hr hlocks hO dX9_guard_33
    · have h := ite_f c7 h
      refine lv_iconst (v := 1) hx hb dX9_guard_28 (by decide) ?_
      refine lv_goto (tgt := 33) hx hb dX9_guard_29 (by decide) ?_
      obtain ⟨rfl, rfl⟩ := ret2 h; exact rf_iret hx hb hr hlocks hO dX9_guard_33
  · have h := ite_t c4 h
    refine lv_iconst (v := -1) hx hb dX9_guard_8 (by decide) ?_
    obtain ⟨rfl, rfl⟩ := ret2 h; exact rf_iret hx hb hr hlocks hO dX9_guard_9
-- CallWalkerModel fund
def j_Mo_fund (a1 : Int32) (a2 : Int64) (st : CwS) : Option (Int32 × CwS) :=
  bR (j_Mo_isContract a1 st) fun r1 st2 =>
  if r1 = ((0 : Int32)) then
    some ((-1 : Int32), st2)
  else
    if ((0 : Int32)) ≤ (lg_cmp a2 ((0 : Int64))) then
      ck (ix a1 8) <|
      some ((1 : Int32), sL st2 1 0 a1.toNatClampNeg a2)
    else
      some ((-1 : Int32), st2)
set_option maxHeartbeats 4000000 in
theorem x_Mo_fund {a1 : Int32} {a2 : Int64} {st : CwS} {r : Int32} {st' : CwS} (h : j_Mo_fund a1 a2 st = some (r, st')) : Ext st st' := by
  unfold j_Mo_fund at h
  obtain ⟨r1, st2, h3, h⟩ := bR_some h
  refine Ext.trans (a := st) (b := st2) (by have t := x_Mo_isContract h3; exact t) ?_
  by_cases c4 : r1 = ((0 : Int32))
  · have h := ite_t c4 h
    obtain ⟨-, rfl⟩ := ret2 h; exact (show Ext st2 _ from Ext.refl st2)
  · have h := ite_f c4 h
    by_cases c5 : ((0 : Int32)) ≤ (lg_cmp a2 ((0 : Int64)))
    · have h := ite_t c5 h
      obtain ⟨-, h⟩ := ck_some h
      obtain ⟨-, rfl⟩ := ret2 h; exact (show Ext st2 _ from Ext.refl st2)
    · have h := ite_f c5 h
      obtain ⟨-, rfl⟩ := ret2 h; exact (show Ext st2 _ from Ext.refl st2)
set_option maxHeartbeats 4000000 in
set_option maxRecDepth 100000 in
theorem c_Mo_fund (l : Launch) (D : va_G) (A : Nat → Prop) (b0 : Nat) (cA : Nat → ClassId) (st : CwS) (a1 : Int32) (a2 : Int64) (r : Int32) (st' : CwS) (h : j_Mo_fund a1 a2 st = some (r, st')) : Met l yX9_fund (wv yX9_fund cX9_fund 4 (some .int)) ({ frames := 2, cells := 0, slots := 0, locals := 43 }) (va_Pc [.ref b0, .int a1, .long a2] (rfU D A b0 cA st)) (rfQi D A b0 cA r st') (0) (0) A := by
  refine Met.ofW (cc := cX9_fund) (maxL := 4) (ret := some .int) (by decide) rfl ?_
  intro p e s m args below meth c s₁ B hml hv
  obtain ⟨rfl, hP, hD, hz, hK⟩ := hv
  have hx := B.exec
  have hb := B.bytes
  have hr := B.returns
  have hts := atoms_spec (ws := wv yX9_fund cX9_fund 4 (some .int)) B.pre
  have hown : s.vm.findClass RX9 = some m.cls := findClass_of_methodNamed B.named
  have hlocks := B.notSynchronized
  have hO : rfO D A b0 cA s st s.heap [] := ⟨hP, hD, va_S.rf, hz⟩
  have hl := lv_entry ([.ref b0, .int a1, .long a2]) (n := 4) (Nat.le_of_ble_eq_true rfl)
  rw [lg_entry_eq]
  generalize (lg_sl ([.ref b0, .int a1, .long a2]) ++ List.replicate (4 - (lg_sl ([.ref b0, .int a1, .long a2])).length) Slot.unset).toArray = ls at hl ⊢
  have hl : lv_has ls 4 [(0, .ref b0), (1, .int a1), (2, .long a2)] := hl
  have hgw := fun (w : Cond) (h : w ∈ gwW) => hts w (List.mem_cons_of_mem _ h)
  have k27 := hgw _ w_84119660
  unfold j_Mo_fund at h
  refine lv_aload_n hx hb dX9_fund_0 rfl (lv_at hl 0 rfl) ?_
  refine lv_iload_n hx hb dX9_fund_1 rfl (lv_at hl 1 rfl) ?_
  obtain ⟨r1, st2, h3, h⟩ := bR_some h
  have x_st2 : Ext st st2 := by have t := x_Mo_isContract h3; exact t
  refine rf_calli (va_runV (As := [.int a1]) (rest := []) ⟨hx, hb, hml, hown, hts⟩ (c_Mo_isContract l D A b0 cA st a1 r1 st2 h3) (cwV 1 hts (gw_V w_2a3edacb w_154d6145 w_9fa83223 w_18f41a94 w_8fbfc78e) rfl rfl rfl (by decide +kernel) ⟨by show 1 + 1 ≤ 2; omega, by show 8 + (2 + 11) + (22) ≤ 43; omega⟩) (rf_preM hK hO) rfl rfl hl.1 rfl (lv_room (Nat.le_of_ble_eq_true rfl)) dX9_fund_2 ⟨Nat.zero_le _, Nat.zero_le _⟩) hO (fun H locs hO => ?_)
  refine lv_if_eq (tgt := 14) hx hb dX9_fund_5 (by decide) (fun c4 => ?_) (fun c4 => ?_)
  · have h := ite_t c4 h
    refine lv_iconst (v := -1) hx hb dX9_fund_14 (by decide) ?_
    obtain ⟨rfl, rfl⟩ := ret2 h; exact rf_iret hx hb hr hlocks hO dX9_fund_15
  · have h := ite_f c4 h
    refine lv_lload_n hx hb dX9_fund_8 rfl (lv_at hl 2 rfl) ?_
    refine lv_lconst (v := 0) hx hb dX9_fund_9 (by decide) ?_
    refine W.lcmp hx hb dX9_fund_10 ?_
    refine lv_if_ge (tgt := 16) hx hb dX9_fund_11 (by decide) (fun c5 => ?_) (fun c5 => ?_)
    · have h := ite_t c5 h
      refine lv_aload_n hx hb dX9_fund_16 rfl (lv_at hl 0 rfl) ?_
      refine gf_Mo_balances hx hb hgw iwMo hown hK hO k27 dX9_fund_17 ?_
      refine lv_iload_n hx hb dX9_fund_20 rfl (lv_at hl 1 rfl) ?_
      refine lv_lload_n hx hb dX9_fund_21 rfl (lv_at hl 2 rfl) ?_
      obtain ⟨hc6, h⟩ := ck_some h
      refine as_MBals hx hb hK hO hc6 dX9_fund_22 (fun H locs hO => ?_)
      refine lv_iconst (v := 1) hx hb dX9_fund_23 (by decide) ?_
      obtain ⟨rfl, rfl⟩ := ret2 h; exact rf_iret hx hb hr hlocks hO dX9_fund_24
    · have h := ite_f c5 h
      refine lv_iconst (v := -1) hx hb dX9_fund_14 (by decide) ?_
      obtain ⟨rfl, rfl⟩ := ret2 h; exact rf_iret hx hb hr hlocks hO dX9_fund_15
-- CallWalkerModel given
def j_Mo_given (st : CwS) : Option (Int64 × CwS) :=
  some (gL (sI st 6 0 0 ((0 : Int32))) 3 0 0, sI st 6 0 0 ((0 : Int32)))
set_option maxHeartbeats 4000000 in
theorem x_Mo_given {st : CwS} {r : Int64} {st' : CwS} (h : j_Mo_given st = some (r, st')) : Ext st st' := by
  unfold j_Mo_given at h
  obtain ⟨-, rfl⟩ := ret2 h; exact (show Ext st _ from Ext.refl st)
set_option maxHeartbeats 4000000 in
set_option maxRecDepth 100000 in
theorem c_Mo_given (l : Launch) (D : va_G) (A : Nat → Prop) (b0 : Nat) (cA : Nat → ClassId) (st : CwS) (r : Int64) (st' : CwS) (h : j_Mo_given st = some (r, st')) : Met l yX9_given (wv yX9_given cX9_given 1 (some .long)) ({ frames := 0, cells := 0, slots := 0, locals := 0 }) (va_Pc [.ref b0] (rfU D A b0 cA st)) (rfQl D A b0 cA r st') (0) (0) A := by
  refine Met.ofW (cc := cX9_given) (maxL := 1) (ret := some .long) (by decide) rfl ?_
  intro p e s m args below meth c s₁ B hml hv
  obtain ⟨rfl, hP, hD, hz, hK⟩ := hv
  have hx := B.exec
  have hb := B.bytes
  have hr := B.returns
  have hts := atoms_spec (ws := wv yX9_given cX9_given 1 (some .long)) B.pre
  have hown : s.vm.findClass RX9 = some m.cls := findClass_of_methodNamed B.named
  have hlocks := B.notSynchronized
  have hO : rfO D A b0 cA s st s.heap [] := ⟨hP, hD, va_S.rf, hz⟩
  have hl := lv_entry ([.ref b0]) (n := 1) (Nat.le_of_ble_eq_true rfl)
  rw [lg_entry_eq]
  generalize (lg_sl ([.ref b0]) ++ List.replicate (1 - (lg_sl ([.ref b0])).length) Slot.unset).toArray = ls at hl ⊢
  have hl : lv_has ls 1 [(0, .ref b0)] := hl
  have hgw := fun (w : Cond) (h : w ∈ gwW) => hts w (List.mem_cons_of_mem _ h)
  have k45 := hgw _ w_072cb29f
  have k217 := hgw _ w_efe6a0f8
  unfold j_Mo_given at h
  refine lv_aload_n hx hb dX9_given_0 rfl (lv_at hl 0 rfl) ?_
  refine lv_iconst (v := 0) hx hb dX9_given_1 (by decide) ?_
  refine pf_Mo_code hx hb hgw iwMo hown hK hO k45 dX9_given_2 (fun H locs hO => ?_)
  refine lv_aload_n hx hb dX9_given_5 rfl (lv_at hl 0 rfl) ?_
  refine gf_Mo_given hx hb hgw iwMo hown hK hO k217 dX9_given_6 ?_
  obtain ⟨rfl, rfl⟩ := ret2 h; exact rf_lret hx hb hr hlocks hO dX9_given_9
-- CallWalkerModel told
def j_Mo_told (a1 : Int32) (st : CwS) : Option (Int32 × CwS) :=
  if a1 = (0 : Int32) then
    some (gI (sI st 6 0 0 ((0 : Int32))) 8 0 0, sI st 6 0 0 ((0 : Int32)))
  else
  if a1 = (1 : Int32) then
    some (gI (sI st 6 0 0 ((0 : Int32))) 9 0 0, sI st 6 0 0 ((0 : Int32)))
  else
  if a1 = (2 : Int32) then
    some (gI (sI st 6 0 0 ((0 : Int32))) 10 0 0, sI st 6 0 0 ((0 : Int32)))
  else
  if a1 = (3 : Int32) then
    some (gI (sI st 6 0 0 ((0 : Int32))) 11 0 0, sI st 6 0 0 ((0 : Int32)))
  else
  if a1 = (4 : Int32) then
    some (gI (sI st 6 0 0 ((0 : Int32))) 12 0 0, sI st 6 0 0 ((0 : Int32)))
  else
    some ((-1 : Int32), sI st 6 0 0 ((0 : Int32)))
set_option maxHeartbeats 4000000 in
theorem x_Mo_told {a1 : Int32} {st : CwS} {r : Int32} {st' : CwS} (h : j_Mo_told a1 st = some (r, st')) : Ext st st' := by
  unfold j_Mo_told at h
  by_cases c1 : a1 = (0 : Int32)
  · have h := ite_t c1 h
    obtain ⟨-, rfl⟩ := ret2 h; exact (show Ext st _ from Ext.refl st)
  have h := ite_f c1 h
  by_cases c2 : a1 = (1 : Int32)
  · have h := ite_t c2 h
    obtain ⟨-, rfl⟩ := ret2 h; exact (show Ext st _ from Ext.refl st)
  have h := ite_f c2 h
  by_cases c3 : a1 = (2 : Int32)
  · have h := ite_t c3 h
    obtain ⟨-, rfl⟩ := ret2 h; exact (show Ext st _ from Ext.refl st)
  have h := ite_f c3 h
  by_cases c4 : a1 = (3 : Int32)
  · have h := ite_t c4 h
    obtain ⟨-, rfl⟩ := ret2 h; exact (show Ext st _ from Ext.refl st)
  have h := ite_f c4 h
  by_cases c5 : a1 = (4 : Int32)
  · have h := ite_t c5 h
    obtain ⟨-, rfl⟩ := ret2 h; exact (show Ext st _ from Ext.refl st)
  have h := ite_f c5 h
  obtain ⟨-, rfl⟩ := ret2 h; exact (show Ext st _ from Ext.refl st)
set_option maxHeartbeats 4000000 in
set_option maxRecDepth 100000 in
theorem c_Mo_told (l : Launch) (D : va_G) (A : Nat → Prop) (b0 : Nat) (cA : Nat → ClassId) (st : CwS) (a1 : Int32) (r : Int32) (st' : CwS) (h : j_Mo_told a1 st = some (r, st')) : Met l yX9_told (wv yX9_told cX9_told 2 (some .int)) ({ frames := 0, cells := 0, slots := 0, locals := 0 }) (va_Pc [.ref b0, .int a1] (rfU D A b0 cA st)) (rfQi D A b0 cA r st') (0) (0) A := by
  refine Met.ofW (cc := cX9_told) (maxL := 2) (ret := some .int) (by decide) rfl ?_
  intro p e s m args below meth c s₁ B hml hv
  obtain ⟨rfl, hP, hD, hz, hK⟩ := hv
  have hx := B.exec
  have hb := B.bytes
  have hr := B.returns
  have hts := atoms_spec (ws := wv yX9_told cX9_told 2 (some .int)) B.pre
  have hown : s.vm.findClass RX9 = some m.cls := findClass_of_methodNamed B.named
  have hlocks := B.notSynchronized
  have hO : rfO D A b0 cA s st s.heap [] := ⟨hP, hD, va_S.rf, hz⟩
  have hl := lv_entry ([.ref b0, .int a1]) (n := 2) (Nat.le_of_ble_eq_true rfl)
  rw [lg_entry_eq]
  generalize (lg_sl ([.ref b0, .int a1]) ++ List.replicate (2 - (lg_sl ([.ref b0, .int a1])).length) Slot.unset).toArray = ls at hl ⊢
  have hl : lv_has ls 2 [(0, .ref b0), (1, .int a1)] := hl
  have hgw := fun (w : Cond) (h : w ∈ gwW) => hts w (List.mem_cons_of_mem _ h)
  have k45 := hgw _ w_072cb29f
  have k64 := hgw _ w_6e237316
  have k193 := hgw _ w_6cc0f4a7
  have k203 := hgw _ w_6c3d7dd0
  have k206 := hgw _ w_81fdb2eb
  have k212 := hgw _ w_a74db918
  unfold j_Mo_told at h
  refine lv_aload_n hx hb dX9_told_0 rfl (lv_at hl 0 rfl) ?_
  refine lv_iconst (v := 0) hx hb dX9_told_1 (by decide) ?_
  refine pf_Mo_code hx hb hgw iwMo hown hK hO k45 dX9_told_2 (fun H locs hO => ?_)
  refine lv_iload_n hx hb dX9_told_5 rfl (lv_at hl 1 rfl) ?_
  by_cases c6 : a1 = (0 : Int32)
  · have h := ite_t c6 h
    refine lv_tableIn (tgt := 40) hx hb dX9_told_6 (by rw [c6]; decide) (by rw [c6]; decide) (by rw [c6]; rfl) (by decide) ?_
    refine lv_aload_n hx hb dX9_told_40 rfl (lv_at hl 0 rfl) ?_
    refine gf_Mo_taken hx hb hgw iwMo hown hK hO k64 dX9_told_41 ?_
    obtain ⟨rfl, rfl⟩ := ret2 h; exact rf_iret hx hb hr hlocks hO dX9_told_44
  have h := ite_f c6 h
  by_cases c7 : a1 = (1 : Int32)
  · have h := ite_t c7 h
    refine lv_tableIn (tgt := 45) hx hb dX9_told_6 (by rw [c7]; decide) (by rw [c7]; decide) (by rw [c7]; rfl) (by decide) ?_
    refine lv_aload_n hx hb dX9_told_45 rfl (lv_at hl 0 rfl) ?_
    refine gf_Mo_failures hx hb hgw iwMo hown hK hO k212 dX9_told_46 ?_
    obtain ⟨rfl, rfl⟩ := ret2 h; exact rf_iret hx hb hr hlocks hO dX9_told_49
  have h := ite_f c7 h
  by_cases c8 : a1 = (2 : Int32)
  · have h := ite_t c8 h
    refine lv_tableIn (tgt := 50) hx hb dX9_told_6 (by rw [c8]; decide) (by rw [c8]; decide) (by rw [c8]; rfl) (by decide) ?_
    refine lv_aload_n hx hb dX9_told_50 rfl (lv_at hl 0 rfl) ?_
    refine gf_Mo_most hx hb hgw iwMo hown hK hO k193 dX9_told_51 ?_
    obtain ⟨rfl, rfl⟩ := ret2 h; exact rf_iret hx hb hr hlocks hO dX9_told_54
  have h := ite_f c8 h
  by_cases c9 : a1 = (3 : Int32)
  · have h := ite_t c9 h
    refine lv_tableIn (tgt := 55) hx hb dX9_told_6 (by rw [c9]; decide) (by rw [c9]; decide) (by rw [c9]; rfl) (by decide) ?_
    refine lv_aload_n hx hb dX9_told_55 rfl (lv_at hl 0 rfl) ?_
    refine gf_Mo_well hx hb hgw iwMo hown hK hO k203 dX9_told_56 ?_
    obtain ⟨rfl, rfl⟩ := ret2 h; exact rf_iret hx hb hr hlocks hO dX9_told_59
  have h := ite_f c9 h
  by_cases c10 : a1 = (4 : Int32)
  · have h := ite_t c10 h
    refine lv_tableIn (tgt := 60) hx hb dX9_told_6 (by rw [c10]; decide) (by rw [c10]; decide) (by rw [c10]; rfl) (by decide) ?_
    refine lv_aload_n hx hb dX9_told_60 rfl (lv_at hl 0 rfl) ?_
    refine gf_Mo_undone hx hb hgw iwMo hown hK hO k206 dX9_told_61 ?_
    obtain ⟨rfl, rfl⟩ := ret2 h; exact rf_iret hx hb hr hlocks hO dX9_told_64
  have h := ite_f c10 h
  refine cw_tableD (tgt := 65) hx hb dX9_told_6 (by
    have e0 := lv_neT (a := 0) c6 (by decide)
    have e1 := lv_neT (a := 1) c7 (by decide)
    have e2 := lv_neT (a := 2) c8 (by decide)
    have e3 := lv_neT (a := 3) c9 (by decide)
    have e4 := lv_neT (a := 4) c10 (by decide)
    by_cases q1 : a1.toInt < 0
    · exact Or.inl q1
    by_cases q2 : (4 : Int) < a1.toInt
    · exact Or.inr (Or.inl q2)
    omega) (by decide) ?_
  refine lv_iconst (v := -1) hx hb dX9_told_65 (by decide) ?_
  obtain ⟨rfl, rfl⟩ := ret2 h; exact rf_iret hx hb hr hlocks hO dX9_told_66
-- CallWalkerModel leaf
def j_Mo_leaf (a1 : Int32) (a2 : Int32) (st : CwS) : Option (Int64 × CwS) :=
  bR (j_Mo_isContract a1 st) fun r1 st2 =>
  if r1 = ((0 : Int32)) then
    some ((0 : Int64), st2)
  else
    bR (j_Mo_isIn a2 ((0 : Int32)) ((7 : Int32)) st2) fun r5 st6 =>
    if r5 = ((0 : Int32)) then
      some ((0 : Int64), st6)
    else
      ck (ix ((((8 : Int32)) * a1) + a2) 64) <|
      some (gL st6 0 0 (((((8 : Int32)) * a1) + a2).toNatClampNeg), st6)
set_option maxHeartbeats 4000000 in
theorem x_Mo_leaf {a1 : Int32} {a2 : Int32} {st : CwS} {r : Int64} {st' : CwS} (h : j_Mo_leaf a1 a2 st = some (r, st')) : Ext st st' := by
  unfold j_Mo_leaf at h
  obtain ⟨r1, st2, h3, h⟩ := bR_some h
  refine Ext.trans (a := st) (b := st2) (by have t := x_Mo_isContract h3; exact t) ?_
  by_cases c4 : r1 = ((0 : Int32))
  · have h := ite_t c4 h
    obtain ⟨-, rfl⟩ := ret2 h; exact (show Ext st2 _ from Ext.refl st2)
  · have h := ite_f c4 h
    obtain ⟨r5, st6, h7, h⟩ := bR_some h
    refine Ext.trans (a := st2) (b := st6) (by have t := x_Mo_isIn h7; exact t) ?_
    by_cases c8 : r5 = ((0 : Int32))
    · have h := ite_t c8 h
      obtain ⟨-, rfl⟩ := ret2 h; exact (show Ext st6 _ from Ext.refl st6)
    · have h := ite_f c8 h
      obtain ⟨-, h⟩ := ck_some h
      obtain ⟨-, rfl⟩ := ret2 h; exact (show Ext st6 _ from Ext.refl st6)
set_option maxHeartbeats 4000000 in
set_option maxRecDepth 100000 in
theorem c_Mo_leaf (l : Launch) (D : va_G) (A : Nat → Prop) (b0 : Nat) (cA : Nat → ClassId) (st : CwS) (a1 : Int32) (a2 : Int32) (r : Int64) (st' : CwS) (h : j_Mo_leaf a1 a2 st = some (r, st')) : Met l yX9_leaf (wv yX9_leaf cX9_leaf 3 (some .long)) ({ frames := 2, cells := 0, slots := 0, locals := 43 }) (va_Pc [.ref b0, .int a1, .int a2] (rfU D A b0 cA st)) (rfQl D A b0 cA r st') (0) (0) A := by
  refine Met.ofW (cc := cX9_leaf) (maxL := 3) (ret := some .long) (by decide) rfl ?_
  intro p e s m args below meth c s₁ B hml hv
  obtain ⟨rfl, hP, hD, hz, hK⟩ := hv
  have hx := B.exec
  have hb := B.bytes
  have hr := B.returns
  have hts := atoms_spec (ws := wv yX9_leaf cX9_leaf 3 (some .long)) B.pre
  have hown : s.vm.findClass RX9 = some m.cls := findClass_of_methodNamed B.named
  have hlocks := B.notSynchronized
  have hO : rfO D A b0 cA s st s.heap [] := ⟨hP, hD, va_S.rf, hz⟩
  have hl := lv_entry ([.ref b0, .int a1, .int a2]) (n := 3) (Nat.le_of_ble_eq_true rfl)
  rw [lg_entry_eq]
  generalize (lg_sl ([.ref b0, .int a1, .int a2]) ++ List.replicate (3 - (lg_sl ([.ref b0, .int a1, .int a2])).length) Slot.unset).toArray = ls at hl ⊢
  have hl : lv_has ls 3 [(0, .ref b0), (1, .int a1), (2, .int a2)] := hl
  have hgw := fun (w : Cond) (h : w ∈ gwW) => hts w (List.mem_cons_of_mem _ h)
  have k23 := hgw _ w_3c9d41c6
  unfold j_Mo_leaf at h
  refine lv_aload_n hx hb dX9_leaf_0 rfl (lv_at hl 0 rfl) ?_
  refine lv_iload_n hx hb dX9_leaf_1 rfl (lv_at hl 1 rfl) ?_
  obtain ⟨r1, st2, h3, h⟩ := bR_some h
  have x_st2 : Ext st st2 := by have t := x_Mo_isContract h3; exact t
  refine rf_calli (va_runV (As := [.int a1]) (rest := []) ⟨hx, hb, hml, hown, hts⟩ (c_Mo_isContract l D A b0 cA st a1 r1 st2 h3) (cwV 1 hts (gw_V w_2a3edacb w_154d6145 w_9fa83223 w_18f41a94 w_8fbfc78e) rfl rfl rfl (by decide +kernel) ⟨by show 1 + 1 ≤ 2; omega, by show 8 + (2 + 11) + (22) ≤ 43; omega⟩) (rf_preM hK hO) rfl rfl hl.1 rfl (lv_room (Nat.le_of_ble_eq_true rfl)) dX9_leaf_2 ⟨Nat.zero_le _, Nat.zero_le _⟩) hO (fun H locs hO => ?_)
  refine lv_if_eq (tgt := 32) hx hb dX9_leaf_5 (by decide) (fun c4 => ?_) (fun c4 => ?_)
  · have h := ite_t c4 h
    refine lv_lconst (v := 0) hx hb dX9_leaf_32 (by decide) ?_
    obtain ⟨rfl, rfl⟩ := ret2 h; exact rf_lret hx hb hr hlocks hO dX9_leaf_33
  · have h := ite_f c4 h
    refine lv_iload_n hx hb dX9_leaf_8 rfl (lv_at hl 2 rfl) ?_
    refine lv_iconst (v := 0) hx hb dX9_leaf_9 (by decide) ?_
    refine lv_bipush (v := 7) hx hb dX9_leaf_10 (by decide) ?_
    obtain ⟨r5, st6, h7, h⟩ := bR_some h
    have x_st6 : Ext st2 st6 := by have t := x_Mo_isIn h7; exact t
    refine rf_calli (va_runS (As := [.int a2, .int ((0 : Int32)), .int ((7 : Int32))]) (rest := []) ⟨hx, hb, hml, hown, hts⟩ (c_Mo_isIn l D A b0 cA st2 a2 ((0 : Int32)) ((7 : Int32)) r5 st6 h7) (va_cwS 3 hts (gw_S w_b104d635 w_dc566d63 w_18f41a94 w_c8674231) rfl rfl rfl (by decide +kernel) ⟨by show 0 + 1 ≤ 2; omega, by show 8 + (3 + 11) + (0) ≤ 43; omega⟩) (rf_preS hK hO) rfl rfl hl.1 rfl (lv_room (Nat.le_of_ble_eq_true rfl)) dX9_leaf_12 ⟨Nat.zero_le _, Nat.zero_le _⟩) hO (fun H locs hO => ?_)
    refine lv_if_eq (tgt := 32) hx hb dX9_leaf_15 (by decide) (fun c8 => ?_) (fun c8 => ?_)
    · have h := ite_t c8 h
      refine lv_lconst (v := 0) hx hb dX9_leaf_32 (by decide) ?_
      obtain ⟨rfl, rfl⟩ := ret2 h; exact rf_lret hx hb hr hlocks hO dX9_leaf_33
    · have h := ite_f c8 h
      refine lv_aload_n hx hb dX9_leaf_18 rfl (lv_at hl 0 rfl) ?_
      refine gf_Mo_leaves hx hb hgw iwMo hown hK hO k23 dX9_leaf_19 ?_
      refine lv_bipush (v := 8) hx hb dX9_leaf_22 (by decide) ?_
      refine lv_iload_n hx hb dX9_leaf_24 rfl (lv_at hl 1 rfl) ?_
      refine lv_imul hx hb dX9_leaf_25 ?_
      refine lv_iload_n hx hb dX9_leaf_26 rfl (lv_at hl 2 rfl) ?_
      refine lv_iadd hx hb dX9_leaf_27 ?_
      obtain ⟨hc9, h⟩ := ck_some h
      refine al_MLeaves hx hb hK hO hc9 dX9_leaf_28 ?_
      refine lv_goto (tgt := 33) hx hb dX9_leaf_29 (by decide) ?_
      obtain ⟨rfl, rfl⟩ := ret2 h; exact rf_lret hx hb hr hlocks hO dX9_leaf_33
-- CallWalkerModel balance
def j_Mo_balance (a1 : Int32) (st : CwS) : Option (Int64 × CwS) :=
  bR (j_Mo_isContract a1 st) fun r1 st2 =>
  if r1 = ((0 : Int32)) then
    some ((0 : Int64), st2)
  else
    ck (ix a1 8) <|
    some (gL st2 1 0 a1.toNatClampNeg, st2)
set_option maxHeartbeats 4000000 in
theorem x_Mo_balance {a1 : Int32} {st : CwS} {r : Int64} {st' : CwS} (h : j_Mo_balance a1 st = some (r, st')) : Ext st st' := by
  unfold j_Mo_balance at h
  obtain ⟨r1, st2, h3, h⟩ := bR_some h
  refine Ext.trans (a := st) (b := st2) (by have t := x_Mo_isContract h3; exact t) ?_
  by_cases c4 : r1 = ((0 : Int32))
  · have h := ite_t c4 h
    obtain ⟨-, rfl⟩ := ret2 h; exact (show Ext st2 _ from Ext.refl st2)
  · have h := ite_f c4 h
    obtain ⟨-, h⟩ := ck_some h
    obtain ⟨-, rfl⟩ := ret2 h; exact (show Ext st2 _ from Ext.refl st2)
set_option maxHeartbeats 4000000 in
set_option maxRecDepth 100000 in
theorem c_Mo_balance (l : Launch) (D : va_G) (A : Nat → Prop) (b0 : Nat) (cA : Nat → ClassId) (st : CwS) (a1 : Int32) (r : Int64) (st' : CwS) (h : j_Mo_balance a1 st = some (r, st')) : Met l yX9_balance (wv yX9_balance cX9_balance 2 (some .long)) ({ frames := 2, cells := 0, slots := 0, locals := 43 }) (va_Pc [.ref b0, .int a1] (rfU D A b0 cA st)) (rfQl D A b0 cA r st') (0) (0) A := by
  refine Met.ofW (cc := cX9_balance) (maxL := 2) (ret := some .long) (by decide) rfl ?_
  intro p e s m args below meth c s₁ B hml hv
  obtain ⟨rfl, hP, hD, hz, hK⟩ := hv
  have hx := B.exec
  have hb := B.bytes
  have hr := B.returns
  have hts := atoms_spec (ws := wv yX9_balance cX9_balance 2 (some .long)) B.pre
  have hown : s.vm.findClass RX9 = some m.cls := findClass_of_methodNamed B.named
  have hlocks := B.notSynchronized
  have hO : rfO D A b0 cA s st s.heap [] := ⟨hP, hD, va_S.rf, hz⟩
  have hl := lv_entry ([.ref b0, .int a1]) (n := 2) (Nat.le_of_ble_eq_true rfl)
  rw [lg_entry_eq]
  generalize (lg_sl ([.ref b0, .int a1]) ++ List.replicate (2 - (lg_sl ([.ref b0, .int a1])).length) Slot.unset).toArray = ls at hl ⊢
  have hl : lv_has ls 2 [(0, .ref b0), (1, .int a1)] := hl
  have hgw := fun (w : Cond) (h : w ∈ gwW) => hts w (List.mem_cons_of_mem _ h)
  have k27 := hgw _ w_84119660
  unfold j_Mo_balance at h
  refine lv_aload_n hx hb dX9_balance_0 rfl (lv_at hl 0 rfl) ?_
  refine lv_iload_n hx hb dX9_balance_1 rfl (lv_at hl 1 rfl) ?_
  obtain ⟨r1, st2, h3, h⟩ := bR_some h
  have x_st2 : Ext st st2 := by have t := x_Mo_isContract h3; exact t
  refine rf_calli (va_runV (As := [.int a1]) (rest := []) ⟨hx, hb, hml, hown, hts⟩ (c_Mo_isContract l D A b0 cA st a1 r1 st2 h3) (cwV 1 hts (gw_V w_2a3edacb w_154d6145 w_9fa83223 w_18f41a94 w_8fbfc78e) rfl rfl rfl (by decide +kernel) ⟨by show 1 + 1 ≤ 2; omega, by show 8 + (2 + 11) + (22) ≤ 43; omega⟩) (rf_preM hK hO) rfl rfl hl.1 rfl (lv_room (Nat.le_of_ble_eq_true rfl)) dX9_balance_2 ⟨Nat.zero_le _, Nat.zero_le _⟩) hO (fun H locs hO => ?_)
  refine lv_if_eq (tgt := 17) hx hb dX9_balance_5 (by decide) (fun c4 => ?_) (fun c4 => ?_)
  · have h := ite_t c4 h
    refine lv_lconst (v := 0) hx hb dX9_balance_17 (by decide) ?_
    obtain ⟨rfl, rfl⟩ := ret2 h; exact rf_lret hx hb hr hlocks hO dX9_balance_18
  · have h := ite_f c4 h
    refine lv_aload_n hx hb dX9_balance_8 rfl (lv_at hl 0 rfl) ?_
    refine gf_Mo_balances hx hb hgw iwMo hown hK hO k27 dX9_balance_9 ?_
    refine lv_iload_n hx hb dX9_balance_12 rfl (lv_at hl 1 rfl) ?_
    obtain ⟨hc5, h⟩ := ck_some h
    refine al_MBals hx hb hK hO hc5 dX9_balance_13 ?_
    refine lv_goto (tgt := 18) hx hb dX9_balance_14 (by decide) ?_
    obtain ⟨rfl, rfl⟩ := ret2 h; exact rf_lret hx hb hr hlocks hO dX9_balance_18
-- CallWalkerModel events
def j_Mo_events (st : CwS) : Option (Int32 × CwS) :=
  some (gI (sI st 6 0 0 ((0 : Int32))) 7 0 0, sI st 6 0 0 ((0 : Int32)))
set_option maxHeartbeats 4000000 in
theorem x_Mo_events {st : CwS} {r : Int32} {st' : CwS} (h : j_Mo_events st = some (r, st')) : Ext st st' := by
  unfold j_Mo_events at h
  obtain ⟨-, rfl⟩ := ret2 h; exact (show Ext st _ from Ext.refl st)
set_option maxHeartbeats 4000000 in
set_option maxRecDepth 100000 in
theorem c_Mo_events (l : Launch) (D : va_G) (A : Nat → Prop) (b0 : Nat) (cA : Nat → ClassId) (st : CwS) (r : Int32) (st' : CwS) (h : j_Mo_events st = some (r, st')) : Met l yX9_events (wv yX9_events cX9_events 1 (some .int)) ({ frames := 0, cells := 0, slots := 0, locals := 0 }) (va_Pc [.ref b0] (rfU D A b0 cA st)) (rfQi D A b0 cA r st') (0) (0) A := by
  refine Met.ofW (cc := cX9_events) (maxL := 1) (ret := some .int) (by decide) rfl ?_
  intro p e s m args below meth c s₁ B hml hv
  obtain ⟨rfl, hP, hD, hz, hK⟩ := hv
  have hx := B.exec
  have hb := B.bytes
  have hr := B.returns
  have hts := atoms_spec (ws := wv yX9_events cX9_events 1 (some .int)) B.pre
  have hown : s.vm.findClass RX9 = some m.cls := findClass_of_methodNamed B.named
  have hlocks := B.notSynchronized
  have hO : rfO D A b0 cA s st s.heap [] := ⟨hP, hD, va_S.rf, hz⟩
  have hl := lv_entry ([.ref b0]) (n := 1) (Nat.le_of_ble_eq_true rfl)
  rw [lg_entry_eq]
  generalize (lg_sl ([.ref b0]) ++ List.replicate (1 - (lg_sl ([.ref b0])).length) Slot.unset).toArray = ls at hl ⊢
  have hl : lv_has ls 1 [(0, .ref b0)] := hl
  have hgw := fun (w : Cond) (h : w ∈ gwW) => hts w (List.mem_cons_of_mem _ h)
  have k45 := hgw _ w_072cb29f
  have k128 := hgw _ w_e76b45dd
  unfold j_Mo_events at h
  refine lv_aload_n hx hb dX9_events_0 rfl (lv_at hl 0 rfl) ?_
  refine lv_iconst (v := 0) hx hb dX9_events_1 (by decide) ?_
  refine pf_Mo_code hx hb hgw iwMo hown hK hO k45 dX9_events_2 (fun H locs hO => ?_)
  refine lv_aload_n hx hb dX9_events_5 rfl (lv_at hl 0 rfl) ?_
  refine gf_Mo_events hx hb hgw iwMo hown hK hO k128 dX9_events_6 ?_
  obtain ⟨rfl, rfl⟩ := ret2 h; exact rf_iret hx hb hr hlocks hO dX9_events_9
-- CallWalkerModel event
def j_Mo_event (a1 : Int32) (a2 : Int32) (st : CwS) : Option (Int32 × CwS) :=
  bR (j_Mo_isIn a1 ((0 : Int32)) ((gI (sI st 6 0 0 ((0 : Int32))) 7 0 0) - ((1 : Int32))) (sI st 6 0 0 ((0 : Int32)))) fun r1 st2 =>
  if r1 = ((0 : Int32)) then
    some ((-1 : Int32), st2)
  else
    if a2 = ((0 : Int32)) then
      ck (ix a1 40) <|
      some (gI st2 5 0 a1.toNatClampNeg, st2)
    else
      some ((-1 : Int32), st2)
set_option maxHeartbeats 4000000 in
theorem x_Mo_event {a1 : Int32} {a2 : Int32} {st : CwS} {r : Int32} {st' : CwS} (h : j_Mo_event a1 a2 st = some (r, st')) : Ext st st' := by
  unfold j_Mo_event at h
  obtain ⟨r1, st2, h3, h⟩ := bR_some h
  refine Ext.trans (a := st) (b := st2) (by have t := x_Mo_isIn h3; exact t) ?_
  by_cases c4 : r1 = ((0 : Int32))
  · have h := ite_t c4 h
    obtain ⟨-, rfl⟩ := ret2 h; exact (show Ext st2 _ from Ext.refl st2)
  · have h := ite_f c4 h
    by_cases c5 : a2 = ((0 : Int32))
    · have h := ite_t c5 h
      obtain ⟨-, h⟩ := ck_some h
      obtain ⟨-, rfl⟩ := ret2 h; exact (show Ext st2 _ from Ext.refl st2)
    · have h := ite_f c5 h
      obtain ⟨-, rfl⟩ := ret2 h; exact (show Ext st2 _ from Ext.refl st2)
set_option maxHeartbeats 4000000 in
set_option maxRecDepth 100000 in
theorem c_Mo_event (l : Launch) (D : va_G) (A : Nat → Prop) (b0 : Nat) (cA : Nat → ClassId) (st : CwS) (a1 : Int32) (a2 : Int32) (r : Int32) (st' : CwS) (h : j_Mo_event a1 a2 st = some (r, st')) : Met l yX9_event (wv yX9_event cX9_event 3 (some .int)) ({ frames := 1, cells := 0, slots := 0, locals := 22 }) (va_Pc [.ref b0, .int a1, .int a2] (rfU D A b0 cA st)) (rfQi D A b0 cA r st') (0) (0) A := by
  refine Met.ofW (cc := cX9_event) (maxL := 3) (ret := some .int) (by decide) rfl ?_
  intro p e s m args below meth c s₁ B hml hv
  obtain ⟨rfl, hP, hD, hz, hK⟩ := hv
  have hx := B.exec
  have hb := B.bytes
  have hr := B.returns
  have hts := atoms_spec (ws := wv yX9_event cX9_event 3 (some .int)) B.pre
  have hown : s.vm.findClass RX9 = some m.cls := findClass_of_methodNamed B.named
  have hlocks := B.notSynchronized
  have hO : rfO D A b0 cA s st s.heap [] := ⟨hP, hD, va_S.rf, hz⟩
  have hl := lv_entry ([.ref b0, .int a1, .int a2]) (n := 3) (Nat.le_of_ble_eq_true rfl)
  rw [lg_entry_eq]
  generalize (lg_sl ([.ref b0, .int a1, .int a2]) ++ List.replicate (3 - (lg_sl ([.ref b0, .int a1, .int a2])).length) Slot.unset).toArray = ls at hl ⊢
  have hl : lv_has ls 3 [(0, .ref b0), (1, .int a1), (2, .int a2)] := hl
  have hgw := fun (w : Cond) (h : w ∈ gwW) => hts w (List.mem_cons_of_mem _ h)
  have k33 := hgw _ w_4baf838d
  have k45 := hgw _ w_072cb29f
  have k128 := hgw _ w_e76b45dd
  unfold j_Mo_event at h
  refine lv_aload_n hx hb dX9_event_0 rfl (lv_at hl 0 rfl) ?_
  refine lv_iconst (v := 0) hx hb dX9_event_1 (by decide) ?_
  refine pf_Mo_code hx hb hgw iwMo hown hK hO k45 dX9_event_2 (fun H locs hO => ?_)
  refine lv_iload_n hx hb dX9_event_5 rfl (lv_at hl 1 rfl) ?_
  refine lv_iconst (v := 0) hx hb dX9_event_6 (by decide) ?_
  refine lv_aload_n hx hb dX9_event_7 rfl (lv_at hl 0 rfl) ?_
  refine gf_Mo_events hx hb hgw iwMo hown hK hO k128 dX9_event_8 ?_
  refine lv_iconst (v := 1) hx hb dX9_event_11 (by decide) ?_
  refine lv_isub hx hb dX9_event_12 ?_
  obtain ⟨r1, st2, h3, h⟩ := bR_some h
  have x_st2 : Ext st st2 := by have t := x_Mo_isIn h3; exact t
  refine rf_calli (va_runS (As := [.int a1, .int ((0 : Int32)), .int ((gI (sI st 6 0 0 ((0 : Int32))) 7 0 0) - ((1 : Int32)))]) (rest := []) ⟨hx, hb, hml, hown, hts⟩ (c_Mo_isIn l D A b0 cA (sI st 6 0 0 ((0 : Int32))) a1 ((0 : Int32)) ((gI (sI st 6 0 0 ((0 : Int32))) 7 0 0) - ((1 : Int32))) r1 st2 h3) (va_cwS 3 hts (gw_S w_b104d635 w_dc566d63 w_18f41a94 w_c8674231) rfl rfl rfl (by decide +kernel) ⟨by show 0 + 1 ≤ 1; omega, by show 8 + (3 + 11) + (0) ≤ 22; omega⟩) (rf_preS hK hO) rfl rfl hl.1 rfl (lv_room (Nat.le_of_ble_eq_true rfl)) dX9_event_13 ⟨Nat.zero_le _, Nat.zero_le _⟩) hO (fun H locs hO => ?_)
  refine lv_if_eq (tgt := 32) hx hb dX9_event_16 (by decide) (fun c4 => ?_) (fun c4 => ?_)
  · have h := ite_t c4 h
    refine lv_iconst (v := -1) hx hb dX9_event_32 (by decide) ?_
    obtain ⟨rfl, rfl⟩ := ret2 h; exact rf_iret hx hb hr hlocks hO dX9_event_33
  · have h := ite_f c4 h
    refine lv_iload_n hx hb dX9_event_19 rfl (lv_at hl 2 rfl) ?_
    refine lv_if_ne (tgt := 32) hx hb dX9_event_20 (by decide) (fun c5 => ?_) (fun c5 => ?_)
    · have h := ite_f c5 h
      refine lv_iconst (v := -1) hx hb dX9_event_32 (by decide) ?_
      obtain ⟨rfl, rfl⟩ := ret2 h; exact rf_iret hx hb hr hlocks hO dX9_event_33
    · have h := ite_t c5 h
      refine lv_aload_n hx hb dX9_event_23 rfl (lv_at hl 0 rfl) ?_
      refine gf_Mo_eventContracts hx hb hgw iwMo hown hK hO k33 dX9_event_24 ?_
      refine lv_iload_n hx hb dX9_event_27 rfl (lv_at hl 1 rfl) ?_
      obtain ⟨hc6, h⟩ := ck_some h
      refine al_MEvC hx hb hK hO hc6 dX9_event_28 ?_
      refine lv_goto (tgt := 33) hx hb dX9_event_29 (by decide) ?_
      obtain ⟨rfl, rfl⟩ := ret2 h; exact rf_iret hx hb hr hlocks hO dX9_event_33
-- CallWalkerModel value
def j_Mo_value (a1 : Int32) (st : CwS) : Option (Int64 × CwS) :=
  bR (j_Mo_isIn a1 ((0 : Int32)) ((gI st 7 0 0) - ((1 : Int32))) st) fun r1 st2 =>
  if r1 = ((0 : Int32)) then
    if (gI (sI st2 6 0 0 ((1 : Int32))) 6 0 0) = ((0 : Int32)) then
      ck (ix a1 40) <|
      some (gL (sI st2 6 0 0 ((1 : Int32))) 2 0 a1.toNatClampNeg, sI st2 6 0 0 ((1 : Int32)))
    else
      some ((0 : Int64), sI st2 6 0 0 ((1 : Int32)))
  else
    if (gI (sI st2 6 0 0 ((0 : Int32))) 6 0 0) = ((0 : Int32)) then
      ck (ix a1 40) <|
      some (gL (sI st2 6 0 0 ((0 : Int32))) 2 0 a1.toNatClampNeg, sI st2 6 0 0 ((0 : Int32)))
    else
      some ((0 : Int64), sI st2 6 0 0 ((0 : Int32)))
set_option maxHeartbeats 4000000 in
theorem x_Mo_value {a1 : Int32} {st : CwS} {r : Int64} {st' : CwS} (h : j_Mo_value a1 st = some (r, st')) : Ext st st' := by
  unfold j_Mo_value at h
  obtain ⟨r1, st2, h3, h⟩ := bR_some h
  refine Ext.trans (a := st) (b := st2) (by have t := x_Mo_isIn h3; exact t) ?_
  by_cases c4 : r1 = ((0 : Int32))
  · have h := ite_t c4 h
    by_cases c5 : (gI (sI st2 6 0 0 ((1 : Int32))) 6 0 0) = ((0 : Int32))
    · have h := ite_t c5 h
      obtain ⟨-, h⟩ := ck_some h
      obtain ⟨-, rfl⟩ := ret2 h; exact (show Ext st2 _ from Ext.refl st2)
    · have h := ite_f c5 h
      obtain ⟨-, rfl⟩ := ret2 h; exact (show Ext st2 _ from Ext.refl st2)
  · have h := ite_f c4 h
    by_cases c7 : (gI (sI st2 6 0 0 ((0 : Int32))) 6 0 0) = ((0 : Int32))
    · have h := ite_t c7 h
      obtain ⟨-, h⟩ := ck_some h
      obtain ⟨-, rfl⟩ := ret2 h; exact (show Ext st2 _ from Ext.refl st2)
    · have h := ite_f c7 h
      obtain ⟨-, rfl⟩ := ret2 h; exact (show Ext st2 _ from Ext.refl st2)
set_option maxHeartbeats 4000000 in
set_option maxRecDepth 100000 in
theorem c_Mo_value (l : Launch) (D : va_G) (A : Nat → Prop) (b0 : Nat) (cA : Nat → ClassId) (st : CwS) (a1 : Int32) (r : Int64) (st' : CwS) (h : j_Mo_value a1 st = some (r, st')) : Met l yX9_value (wv yX9_value cX9_value 2 (some .long)) ({ frames := 1, cells := 0, slots := 0, locals := 22 }) (va_Pc [.ref b0, .int a1] (rfU D A b0 cA st)) (rfQl D A b0 cA r st') (0) (0) A := by
  refine Met.ofW (cc := cX9_value) (maxL := 2) (ret := some .long) (by decide) rfl ?_
  intro p e s m args below meth c s₁ B hml hv
  obtain ⟨rfl, hP, hD, hz, hK⟩ := hv
  have hx := B.exec
  have hb := B.bytes
  have hr := B.returns
  have hts := atoms_spec (ws := wv yX9_value cX9_value 2 (some .long)) B.pre
  have hown : s.vm.findClass RX9 = some m.cls := findClass_of_methodNamed B.named
  have hlocks := B.notSynchronized
  have hO : rfO D A b0 cA s st s.heap [] := ⟨hP, hD, va_S.rf, hz⟩
  have hl := lv_entry ([.ref b0, .int a1]) (n := 2) (Nat.le_of_ble_eq_true rfl)
  rw [lg_entry_eq]
  generalize (lg_sl ([.ref b0, .int a1]) ++ List.replicate (2 - (lg_sl ([.ref b0, .int a1])).length) Slot.unset).toArray = ls at hl ⊢
  have hl : lv_has ls 2 [(0, .ref b0), (1, .int a1)] := hl
  have hgw := fun (w : Cond) (h : w ∈ gwW) => hts w (List.mem_cons_of_mem _ h)
  have k36 := hgw _ w_041da35b
  have k45 := hgw _ w_072cb29f
  have k128 := hgw _ w_e76b45dd
  unfold j_Mo_value at h
  refine lv_aload_n hx hb dX9_value_0 rfl (lv_at hl 0 rfl) ?_
  refine lv_iload_n hx hb dX9_value_1 rfl (lv_at hl 1 rfl) ?_
  refine lv_iconst (v := 0) hx hb dX9_value_2 (by decide) ?_
  refine lv_aload_n hx hb dX9_value_3 rfl (lv_at hl 0 rfl) ?_
  refine gf_Mo_events hx hb hgw iwMo hown hK hO k128 dX9_value_4 ?_
  refine lv_iconst (v := 1) hx hb dX9_value_7 (by decide) ?_
  refine lv_isub hx hb dX9_value_8 ?_
  obtain ⟨r1, st2, h3, h⟩ := bR_some h
  have x_st2 : Ext st st2 := by have t := x_Mo_isIn h3; exact t
  refine rf_calli (va_runS (As := [.int a1, .int ((0 : Int32)), .int ((gI st 7 0 0) - ((1 : Int32)))]) (rest := [.ref b0]) ⟨hx, hb, hml, hown, hts⟩ (c_Mo_isIn l D A b0 cA st a1 ((0 : Int32)) ((gI st 7 0 0) - ((1 : Int32))) r1 st2 h3) (va_cwS 3 hts (gw_S w_b104d635 w_dc566d63 w_18f41a94 w_c8674231) rfl rfl rfl (by decide +kernel) ⟨by show 0 + 1 ≤ 1; omega, by show 8 + (3 + 11) + (0) ≤ 22; omega⟩) (rf_preS hK hO) rfl rfl hl.1 rfl (lv_room (Nat.le_of_ble_eq_true rfl)) dX9_value_9 ⟨Nat.zero_le _, Nat.zero_le _⟩) hO (fun H locs hO => ?_)
  refine lv_if_eq (tgt := 19) hx hb dX9_value_12 (by decide) (fun c4 => ?_) (fun c4 => ?_)
  · have h := ite_t c4 h
    refine lv_iconst (v := 1) hx hb dX9_value_19 (by decide) ?_
    refine pf_Mo_code hx hb hgw iwMo hown hK hO k45 dX9_value_20 (fun H locs hO => ?_)
    refine lv_aload_n hx hb dX9_value_23 rfl (lv_at hl 0 rfl) ?_
    refine gf_Mo_code hx hb hgw iwMo hown hK hO k45 dX9_value_24 ?_
    refine lv_if_ne (tgt := 39) hx hb dX9_value_27 (by decide) (fun c5 => ?_) (fun c5 => ?_)
    · have h := ite_f c5 h
      refine lv_lconst (v := 0) hx hb dX9_value_39 (by decide) ?_
      obtain ⟨rfl, rfl⟩ := ret2 h; exact rf_lret hx hb hr hlocks hO dX9_value_40
    · have h := ite_t c5 h
      refine lv_aload_n hx hb dX9_value_30 rfl (lv_at hl 0 rfl) ?_
      refine gf_Mo_eventNumbers hx hb hgw iwMo hown hK hO k36 dX9_value_31 ?_
      refine lv_iload_n hx hb dX9_value_34 rfl (lv_at hl 1 rfl) ?_
      obtain ⟨hc6, h⟩ := ck_some h
      refine al_MEvN hx hb hK hO hc6 dX9_value_35 ?_
      refine lv_goto (tgt := 40) hx hb dX9_value_36 (by decide) ?_
      obtain ⟨rfl, rfl⟩ := ret2 h; exact rf_lret hx hb hr hlocks hO dX9_value_40
  · have h := ite_f c4 h
    refine lv_iconst (v := 0) hx hb dX9_value_15 (by decide) ?_
    refine lv_goto (tgt := 20) hx hb dX9_value_16 (by decide) ?_
    refine pf_Mo_code hx hb hgw iwMo hown hK hO k45 dX9_value_20 (fun H locs hO => ?_)
    refine lv_aload_n hx hb dX9_value_23 rfl (lv_at hl 0 rfl) ?_
    refine gf_Mo_code hx hb hgw iwMo hown hK hO k45 dX9_value_24 ?_
    refine lv_if_ne (tgt := 39) hx hb dX9_value_27 (by decide) (fun c7 => ?_) (fun c7 => ?_)
    · have h := ite_f c7 h
      refine lv_lconst (v := 0) hx hb dX9_value_39 (by decide) ?_
      obtain ⟨rfl, rfl⟩ := ret2 h; exact rf_lret hx hb hr hlocks hO dX9_value_40
    · have h := ite_t c7 h
      refine lv_aload_n hx hb dX9_value_30 rfl (lv_at hl 0 rfl) ?_
      refine gf_Mo_eventNumbers hx hb hgw iwMo hown hK hO k36 dX9_value_31 ?_
      refine lv_iload_n hx hb dX9_value_34 rfl (lv_at hl 1 rfl) ?_
      obtain ⟨hc8, h⟩ := ck_some h
      refine al_MEvN hx hb hK hO hc8 dX9_value_35 ?_
      refine lv_goto (tgt := 40) hx hb dX9_value_36 (by decide) ?_
      obtain ⟨rfl, rfl⟩ := ret2 h; exact rf_lret hx hb hr hlocks hO dX9_value_40
-- CallWalkerModel needs
def j_Mo_needs (a0 : Int32) (st : CwS) : Option (Int32 × CwS) :=
  if a0 = (0 : Int32) then
    some ((1 : Int32), st)
  else
  if a0 = (1 : Int32) then
    some ((1 : Int32), st)
  else
  if a0 = (2 : Int32) then
    some ((10 : Int32), st)
  else
  if a0 = (3 : Int32) then
    some ((12 : Int32), st)
  else
  if a0 = (4 : Int32) then
    some ((10 : Int32), st)
  else
  if a0 = (5 : Int32) then
    some ((22 : Int32), st)
  else
  if a0 = (6 : Int32) then
    some ((21 : Int32), st)
  else
  if a0 = (7 : Int32) then
    some ((21 : Int32), st)
  else
  if a0 = (8 : Int32) then
    some ((21 : Int32), st)
  else
  if a0 = (9 : Int32) then
    some ((21 : Int32), st)
  else
  if a0 = (10 : Int32) then
    some ((21 : Int32), st)
  else
  if a0 = (11 : Int32) then
    some ((21 : Int32), st)
  else
  if a0 = (12 : Int32) then
    some ((21 : Int32), st)
  else
  if a0 = (13 : Int32) then
    some ((0 : Int32), st)
  else
  if a0 = (14 : Int32) then
    some ((10 : Int32), st)
  else
  if a0 = (15 : Int32) then
    some ((11 : Int32), st)
  else
  if a0 = (16 : Int32) then
    some ((11 : Int32), st)
  else
  if a0 = (17 : Int32) then
    some ((21 : Int32), st)
  else
  if a0 = (18 : Int32) then
    some ((21 : Int32), st)
  else
  if a0 = (19 : Int32) then
    some ((30 : Int32), st)
  else
  if a0 = (20 : Int32) then
    some ((30 : Int32), st)
  else
  if a0 = (21 : Int32) then
    some ((11 : Int32), st)
  else
  if a0 = (22 : Int32) then
    some ((1 : Int32), st)
  else
  if a0 = (23 : Int32) then
    some ((50 : Int32), st)
  else
  if a0 = (24 : Int32) then
    some ((0 : Int32), st)
  else
  if a0 = (25 : Int32) then
    some ((0 : Int32), st)
  else
  if a0 = (26 : Int32) then
    some ((0 : Int32), st)
  else
  if a0 = (27 : Int32) then
    some ((10 : Int32), st)
  else
  if a0 = (28 : Int32) then
    some ((10 : Int32), st)
  else
  if a0 = (29 : Int32) then
    some ((31 : Int32), st)
  else
  if a0 = (30 : Int32) then
    some ((1 : Int32), st)
  else
  if a0 = (31 : Int32) then
    some ((1 : Int32), st)
  else
    some ((-1 : Int32), st)
set_option maxHeartbeats 4000000 in
theorem x_Mo_needs {a0 : Int32} {st : CwS} {r : Int32} {st' : CwS} (h : j_Mo_needs a0 st = some (r, st')) : Ext st st' := by
  unfold j_Mo_needs at h
  by_cases c1 : a0 = (0 : Int32)
  · have h := ite_t c1 h
    obtain ⟨-, rfl⟩ := ret2 h; exact (show Ext st _ from Ext.refl st)
  have h := ite_f c1 h
  by_cases c2 : a0 = (1 : Int32)
  · have h := ite_t c2 h
    obtain ⟨-, rfl⟩ := ret2 h; exact (show Ext st _ from Ext.refl st)
  have h := ite_f c2 h
  by_cases c3 : a0 = (2 : Int32)
  · have h := ite_t c3 h
    obtain ⟨-, rfl⟩ := ret2 h; exact (show Ext st _ from Ext.refl st)
  have h := ite_f c3 h
  by_cases c4 : a0 = (3 : Int32)
  · have h := ite_t c4 h
    obtain ⟨-, rfl⟩ := ret2 h; exact (show Ext st _ from Ext.refl st)
  have h := ite_f c4 h
  by_cases c5 : a0 = (4 : Int32)
  · have h := ite_t c5 h
    obtain ⟨-, rfl⟩ := ret2 h; exact (show Ext st _ from Ext.refl st)
  have h := ite_f c5 h
  by_cases c6 : a0 = (5 : Int32)
  · have h := ite_t c6 h
    obtain ⟨-, rfl⟩ := ret2 h; exact (show Ext st _ from Ext.refl st)
  have h := ite_f c6 h
  by_cases c7 : a0 = (6 : Int32)
  · have h := ite_t c7 h
    obtain ⟨-, rfl⟩ := ret2 h; exact (show Ext st _ from Ext.refl st)
  have h := ite_f c7 h
  by_cases c8 : a0 = (7 : Int32)
  · have h := ite_t c8 h
    obtain ⟨-, rfl⟩ := ret2 h; exact (show Ext st _ from Ext.refl st)
  have h := ite_f c8 h
  by_cases c9 : a0 = (8 : Int32)
  · have h := ite_t c9 h
    obtain ⟨-, rfl⟩ := ret2 h; exact (show Ext st _ from Ext.refl st)
  have h := ite_f c9 h
  by_cases c10 : a0 = (9 : Int32)
  · have h := ite_t c10 h
    obtain ⟨-, rfl⟩ := ret2 h; exact (show Ext st _ from Ext.refl st)
  have h := ite_f c10 h
  by_cases c11 : a0 = (10 : Int32)
  · have h := ite_t c11 h
    obtain ⟨-, rfl⟩ := ret2 h; exact (show Ext st _ from Ext.refl st)
  have h := ite_f c11 h
  by_cases c12 : a0 = (11 : Int32)
  · have h := ite_t c12 h
    obtain ⟨-, rfl⟩ := ret2 h; exact (show Ext st _ from Ext.refl st)
  have h := ite_f c12 h
  by_cases c13 : a0 = (12 : Int32)
  · have h := ite_t c13 h
    obtain ⟨-, rfl⟩ := ret2 h; exact (show Ext st _ from Ext.refl st)
  have h := ite_f c13 h
  by_cases c14 : a0 = (13 : Int32)
  · have h := ite_t c14 h
    obtain ⟨-, rfl⟩ := ret2 h; exact (show Ext st _ from Ext.refl st)
  have h := ite_f c14 h
  by_cases c15 : a0 = (14 : Int32)
  · have h := ite_t c15 h
    obtain ⟨-, rfl⟩ := ret2 h; exact (show Ext st _ from Ext.refl st)
  have h := ite_f c15 h
  by_cases c16 : a0 = (15 : Int32)
  · have h := ite_t c16 h
    obtain ⟨-, rfl⟩ := ret2 h; exact (show Ext st _ from Ext.refl st)
  have h := ite_f c16 h
  by_cases c17 : a0 = (16 : Int32)
  · have h := ite_t c17 h
    obtain ⟨-, rfl⟩ := ret2 h; exact (show Ext st _ from Ext.refl st)
  have h := ite_f c17 h
  by_cases c18 : a0 = (17 : Int32)
  · have h := ite_t c18 h
    obtain ⟨-, rfl⟩ := ret2 h; exact (show Ext st _ from Ext.refl st)
  have h := ite_f c18 h
  by_cases c19 : a0 = (18 : Int32)
  · have h := ite_t c19 h
    obtain ⟨-, rfl⟩ := ret2 h; exact (show Ext st _ from Ext.refl st)
  have h := ite_f c19 h
  by_cases c20 : a0 = (19 : Int32)
  · have h := ite_t c20 h
    obtain ⟨-, rfl⟩ := ret2 h; exact (show Ext st _ from Ext.refl st)
  have h := ite_f c20 h
  by_cases c21 : a0 = (20 : Int32)
  · have h := ite_t c21 h
    obtain ⟨-, rfl⟩ := ret2 h; exact (show Ext st _ from Ext.refl st)
  have h := ite_f c21 h
  by_cases c22 : a0 = (21 : Int32)
  · have h := ite_t c22 h
    obtain ⟨-, rfl⟩ := ret2 h; exact (show Ext st _ from Ext.refl st)
  have h := ite_f c22 h
  by_cases c23 : a0 = (22 : Int32)
  · have h := ite_t c23 h
    obtain ⟨-, rfl⟩ := ret2 h; exact (show Ext st _ from Ext.refl st)
  have h := ite_f c23 h
  by_cases c24 : a0 = (23 : Int32)
  · have h := ite_t c24 h
    obtain ⟨-, rfl⟩ := ret2 h; exact (show Ext st _ from Ext.refl st)
  have h := ite_f c24 h
  by_cases c25 : a0 = (24 : Int32)
  · have h := ite_t c25 h
    obtain ⟨-, rfl⟩ := ret2 h; exact (show Ext st _ from Ext.refl st)
  have h := ite_f c25 h
  by_cases c26 : a0 = (25 : Int32)
  · have h := ite_t c26 h
    obtain ⟨-, rfl⟩ := ret2 h; exact (show Ext st _ from Ext.refl st)
  have h := ite_f c26 h
  by_cases c27 : a0 = (26 : Int32)
  · have h := ite_t c27 h
    obtain ⟨-, rfl⟩ := ret2 h; exact (show Ext st _ from Ext.refl st)
  have h := ite_f c27 h
  by_cases c28 : a0 = (27 : Int32)
  · have h := ite_t c28 h
    obtain ⟨-, rfl⟩ := ret2 h; exact (show Ext st _ from Ext.refl st)
  have h := ite_f c28 h
  by_cases c29 : a0 = (28 : Int32)
  · have h := ite_t c29 h
    obtain ⟨-, rfl⟩ := ret2 h; exact (show Ext st _ from Ext.refl st)
  have h := ite_f c29 h
  by_cases c30 : a0 = (29 : Int32)
  · have h := ite_t c30 h
    obtain ⟨-, rfl⟩ := ret2 h; exact (show Ext st _ from Ext.refl st)
  have h := ite_f c30 h
  by_cases c31 : a0 = (30 : Int32)
  · have h := ite_t c31 h
    obtain ⟨-, rfl⟩ := ret2 h; exact (show Ext st _ from Ext.refl st)
  have h := ite_f c31 h
  by_cases c32 : a0 = (31 : Int32)
  · have h := ite_t c32 h
    obtain ⟨-, rfl⟩ := ret2 h; exact (show Ext st _ from Ext.refl st)
  have h := ite_f c32 h
  obtain ⟨-, rfl⟩ := ret2 h; exact (show Ext st _ from Ext.refl st)
set_option maxHeartbeats 4000000 in
set_option maxRecDepth 100000 in
theorem c_Mo_needs (l : Launch) (D : va_G) (A : Nat → Prop) (b0 : Nat) (cA : Nat → ClassId) (st : CwS) (a0 : Int32) (r : Int32) (st' : CwS) (h : j_Mo_needs a0 st = some (r, st')) : Met l yX9_needs (wv yX9_needs cX9_needs 1 (some .int)) ({ frames := 0, cells := 0, slots := 0, locals := 0 }) (va_Pc [.int a0] (rfU D A b0 cA st)) (rfQi D A b0 cA r st') (0) (0) A := by
  refine Met.ofW (cc := cX9_needs) (maxL := 1) (ret := some .int) (by decide) rfl ?_
  intro p e s m args below meth c s₁ B hml hv
  obtain ⟨rfl, hP, hD, hz, hK⟩ := hv
  have hx := B.exec
  have hb := B.bytes
  have hr := B.returns
  have hts := atoms_spec (ws := wv yX9_needs cX9_needs 1 (some .int)) B.pre
  have hown : s.vm.findClass RX9 = some m.cls := findClass_of_methodNamed B.named
  have hlocks := B.notSynchronized
  have hO : rfO D A b0 cA s st s.heap [] := ⟨hP, hD, va_S.rf, hz⟩
  have hl := lv_entry ([.int a0]) (n := 1) (Nat.le_of_ble_eq_true rfl)
  rw [lg_entry_eq]
  generalize (lg_sl ([.int a0]) ++ List.replicate (1 - (lg_sl ([.int a0])).length) Slot.unset).toArray = ls at hl ⊢
  have hl : lv_has ls 1 [(0, .int a0)] := hl
  have hgw := fun (w : Cond) (h : w ∈ gwW) => hts w (List.mem_cons_of_mem _ h)
  unfold j_Mo_needs at h
  refine lv_iload_n hx hb dX9_needs_0 rfl (lv_at hl 0 rfl) ?_
  by_cases c33 : a0 = (0 : Int32)
  · have h := ite_t c33 h
    refine lv_tableIn (tgt := 144) hx hb dX9_needs_1 (by rw [c33]; decide) (by rw [c33]; decide) (by rw [c33]; rfl) (by decide) ?_
    refine lv_iconst (v := 1) hx hb dX9_needs_144 (by decide) ?_
    obtain ⟨rfl, rfl⟩ := ret2 h; exact rf_iret hx hb hr hlocks hO dX9_needs_145
  have h := ite_f c33 h
  by_cases c34 : a0 = (1 : Int32)
  · have h := ite_t c34 h
    refine lv_tableIn (tgt := 144) hx hb dX9_needs_1 (by rw [c34]; decide) (by rw [c34]; decide) (by rw [c34]; rfl) (by decide) ?_
    refine lv_iconst (v := 1) hx hb dX9_needs_144 (by decide) ?_
    obtain ⟨rfl, rfl⟩ := ret2 h; exact rf_iret hx hb hr hlocks hO dX9_needs_145
  have h := ite_f c34 h
  by_cases c35 : a0 = (2 : Int32)
  · have h := ite_t c35 h
    refine lv_tableIn (tgt := 146) hx hb dX9_needs_1 (by rw [c35]; decide) (by rw [c35]; decide) (by rw [c35]; rfl) (by decide) ?_
    refine lv_bipush (v := 10) hx hb dX9_needs_146 (by decide) ?_
    obtain ⟨rfl, rfl⟩ := ret2 h; exact rf_iret hx hb hr hlocks hO dX9_needs_148
  have h := ite_f c35 h
  by_cases c36 : a0 = (3 : Int32)
  · have h := ite_t c36 h
    refine lv_tableIn (tgt := 149) hx hb dX9_needs_1 (by rw [c36]; decide) (by rw [c36]; decide) (by rw [c36]; rfl) (by decide) ?_
    refine lv_bipush (v := 12) hx hb dX9_needs_149 (by decide) ?_
    obtain ⟨rfl, rfl⟩ := ret2 h; exact rf_iret hx hb hr hlocks hO dX9_needs_151
  have h := ite_f c36 h
  by_cases c37 : a0 = (4 : Int32)
  · have h := ite_t c37 h
    refine lv_tableIn (tgt := 146) hx hb dX9_needs_1 (by rw [c37]; decide) (by rw [c37]; decide) (by rw [c37]; rfl) (by decide) ?_
    refine lv_bipush (v := 10) hx hb dX9_needs_146 (by decide) ?_
    obtain ⟨rfl, rfl⟩ := ret2 h; exact rf_iret hx hb hr hlocks hO dX9_needs_148
  have h := ite_f c37 h
  by_cases c38 : a0 = (5 : Int32)
  · have h := ite_t c38 h
    refine lv_tableIn (tgt := 152) hx hb dX9_needs_1 (by rw [c38]; decide) (by rw [c38]; decide) (by rw [c38]; rfl) (by decide) ?_
    refine lv_bipush (v := 22) hx hb dX9_needs_152 (by decide) ?_
    obtain ⟨rfl, rfl⟩ := ret2 h; exact rf_iret hx hb hr hlocks hO dX9_needs_154
  have h := ite_f c38 h
  by_cases c39 : a0 = (6 : Int32)
  · have h := ite_t c39 h
    refine lv_tableIn (tgt := 155) hx hb dX9_needs_1 (by rw [c39]; decide) (by rw [c39]; decide) (by rw [c39]; rfl) (by decide) ?_
    refine lv_bipush (v := 21) hx hb dX9_needs_155 (by decide) ?_
    obtain ⟨rfl, rfl⟩ := ret2 h; exact rf_iret hx hb hr hlocks hO dX9_needs_157
  have h := ite_f c39 h
  by_cases c40 : a0 = (7 : Int32)
  · have h := ite_t c40 h
    refine lv_tableIn (tgt := 155) hx hb dX9_needs_1 (by rw [c40]; decide) (by rw [c40]; decide) (by rw [c40]; rfl) (by decide) ?_
    refine lv_bipush (v := 21) hx hb dX9_needs_155 (by decide) ?_
    obtain ⟨rfl, rfl⟩ := ret2 h; exact rf_iret hx hb hr hlocks hO dX9_needs_157
  have h := ite_f c40 h
  by_cases c41 : a0 = (8 : Int32)
  · have h := ite_t c41 h
    refine lv_tableIn (tgt := 155) hx hb dX9_needs_1 (by rw [c41]; decide) (by rw [c41]; decide) (by rw [c41]; rfl) (by decide) ?_
    refine lv_bipush (v := 21) hx hb dX9_needs_155 (by decide) ?_
    obtain ⟨rfl, rfl⟩ := ret2 h; exact rf_iret hx hb hr hlocks hO dX9_needs_157
  have h := ite_f c41 h
  by_cases c42 : a0 = (9 : Int32)
  · have h := ite_t c42 h
    refine lv_tableIn (tgt := 155) hx hb dX9_needs_1 (by rw [c42]; decide) (by rw [c42]; decide) (by rw [c42]; rfl) (by decide) ?_
    refine lv_bipush (v := 21) hx hb dX9_needs_155 (by decide) ?_
    obtain ⟨rfl, rfl⟩ := ret2 h; exact rf_iret hx hb hr hlocks hO dX9_needs_157
  have h := ite_f c42 h
  by_cases c43 : a0 = (10 : Int32)
  · have h := ite_t c43 h
    refine lv_tableIn (tgt := 155) hx hb dX9_needs_1 (by rw [c43]; decide) (by rw [c43]; decide) (by rw [c43]; rfl) (by decide) ?_
    refine lv_bipush (v := 21) hx hb dX9_needs_155 (by decide) ?_
    obtain ⟨rfl, rfl⟩ := ret2 h; exact rf_iret hx hb hr hlocks hO dX9_needs_157
  have h := ite_f c43 h
  by_cases c44 : a0 = (11 : Int32)
  · have h := ite_t c44 h
    refine lv_tableIn (tgt := 155) hx hb dX9_needs_1 (by rw [c44]; decide) (by rw [c44]; decide) (by rw [c44]; rfl) (by decide) ?_
    refine lv_bipush (v := 21) hx hb dX9_needs_155 (by decide) ?_
    obtain ⟨rfl, rfl⟩ := ret2 h; exact rf_iret hx hb hr hlocks hO dX9_needs_157
  have h := ite_f c44 h
  by_cases c45 : a0 = (12 : Int32)
  · have h := ite_t c45 h
    refine lv_tableIn (tgt := 155) hx hb dX9_needs_1 (by rw [c45]; decide) (by rw [c45]; decide) (by rw [c45]; rfl) (by decide) ?_
    refine lv_bipush (v := 21) hx hb dX9_needs_155 (by decide) ?_
    obtain ⟨rfl, rfl⟩ := ret2 h; exact rf_iret hx hb hr hlocks hO dX9_needs_157
  have h := ite_f c45 h
  by_cases c46 : a0 = (13 : Int32)
  · have h := ite_t c46 h
    refine lv_tableIn (tgt := 158) hx hb dX9_needs_1 (by rw [c46]; decide) (by rw [c46]; decide) (by rw [c46]; rfl) (by decide) ?_
    refine lv_iconst (v := 0) hx hb dX9_needs_158 (by decide) ?_
    obtain ⟨rfl, rfl⟩ := ret2 h; exact rf_iret hx hb hr hlocks hO dX9_needs_159
  have h := ite_f c46 h
  by_cases c47 : a0 = (14 : Int32)
  · have h := ite_t c47 h
    refine lv_tableIn (tgt := 146) hx hb dX9_needs_1 (by rw [c47]; decide) (by rw [c47]; decide) (by rw [c47]; rfl) (by decide) ?_
    refine lv_bipush (v := 10) hx hb dX9_needs_146 (by decide) ?_
    obtain ⟨rfl, rfl⟩ := ret2 h; exact rf_iret hx hb hr hlocks hO dX9_needs_148
  have h := ite_f c47 h
  by_cases c48 : a0 = (15 : Int32)
  · have h := ite_t c48 h
    refine lv_tableIn (tgt := 160) hx hb dX9_needs_1 (by rw [c48]; decide) (by rw [c48]; decide) (by rw [c48]; rfl) (by decide) ?_
    refine lv_bipush (v := 11) hx hb dX9_needs_160 (by decide) ?_
    obtain ⟨rfl, rfl⟩ := ret2 h; exact rf_iret hx hb hr hlocks hO dX9_needs_162
  have h := ite_f c48 h
  by_cases c49 : a0 = (16 : Int32)
  · have h := ite_t c49 h
    refine lv_tableIn (tgt := 160) hx hb dX9_needs_1 (by rw [c49]; decide) (by rw [c49]; decide) (by rw [c49]; rfl) (by decide) ?_
    refine lv_bipush (v := 11) hx hb dX9_needs_160 (by decide) ?_
    obtain ⟨rfl, rfl⟩ := ret2 h; exact rf_iret hx hb hr hlocks hO dX9_needs_162
  have h := ite_f c49 h
  by_cases c50 : a0 = (17 : Int32)
  · have h := ite_t c50 h
    refine lv_tableIn (tgt := 155) hx hb dX9_needs_1 (by rw [c50]; decide) (by rw [c50]; decide) (by rw [c50]; rfl) (by decide) ?_
    refine lv_bipush (v := 21) hx hb dX9_needs_155 (by decide) ?_
    obtain ⟨rfl, rfl⟩ := ret2 h; exact rf_iret hx hb hr hlocks hO dX9_needs_157
  have h := ite_f c50 h
  by_cases c51 : a0 = (18 : Int32)
  · have h := ite_t c51 h
    refine lv_tableIn (tgt := 155) hx hb dX9_needs_1 (by rw [c51]; decide) (by rw [c51]; decide) (by rw [c51]; rfl) (by decide) ?_
    refine lv_bipush (v := 21) hx hb dX9_needs_155 (by decide) ?_
    obtain ⟨rfl, rfl⟩ := ret2 h; exact rf_iret hx hb hr hlocks hO dX9_needs_157
  have h := ite_f c51 h
  by_cases c52 : a0 = (19 : Int32)
  · have h := ite_t c52 h
    refine lv_tableIn (tgt := 163) hx hb dX9_needs_1 (by rw [c52]; decide) (by rw [c52]; decide) (by rw [c52]; rfl) (by decide) ?_
    refine lv_bipush (v := 30) hx hb dX9_needs_163 (by decide) ?_
    obtain ⟨rfl, rfl⟩ := ret2 h; exact rf_iret hx hb hr hlocks hO dX9_needs_165
  have h := ite_f c52 h
  by_cases c53 : a0 = (20 : Int32)
  · have h := ite_t c53 h
    refine lv_tableIn (tgt := 163) hx hb dX9_needs_1 (by rw [c53]; decide) (by rw [c53]; decide) (by rw [c53]; rfl) (by decide) ?_
    refine lv_bipush (v := 30) hx hb dX9_needs_163 (by decide) ?_
    obtain ⟨rfl, rfl⟩ := ret2 h; exact rf_iret hx hb hr hlocks hO dX9_needs_165
  have h := ite_f c53 h
  by_cases c54 : a0 = (21 : Int32)
  · have h := ite_t c54 h
    refine lv_tableIn (tgt := 160) hx hb dX9_needs_1 (by rw [c54]; decide) (by rw [c54]; decide) (by rw [c54]; rfl) (by decide) ?_
    refine lv_bipush (v := 11) hx hb dX9_needs_160 (by decide) ?_
    obtain ⟨rfl, rfl⟩ := ret2 h; exact rf_iret hx hb hr hlocks hO dX9_needs_162
  have h := ite_f c54 h
  by_cases c55 : a0 = (22 : Int32)
  · have h := ite_t c55 h
    refine lv_tableIn (tgt := 144) hx hb dX9_needs_1 (by rw [c55]; decide) (by rw [c55]; decide) (by rw [c55]; rfl) (by decide) ?_
    refine lv_iconst (v := 1) hx hb dX9_needs_144 (by decide) ?_
    obtain ⟨rfl, rfl⟩ := ret2 h; exact rf_iret hx hb hr hlocks hO dX9_needs_145
  have h := ite_f c55 h
  by_cases c56 : a0 = (23 : Int32)
  · have h := ite_t c56 h
    refine lv_tableIn (tgt := 166) hx hb dX9_needs_1 (by rw [c56]; decide) (by rw [c56]; decide) (by rw [c56]; rfl) (by decide) ?_
    refine lv_bipush (v := 50) hx hb dX9_needs_166 (by decide) ?_
    obtain ⟨rfl, rfl⟩ := ret2 h; exact rf_iret hx hb hr hlocks hO dX9_needs_168
  have h := ite_f c56 h
  by_cases c57 : a0 = (24 : Int32)
  · have h := ite_t c57 h
    refine lv_tableIn (tgt := 158) hx hb dX9_needs_1 (by rw [c57]; decide) (by rw [c57]; decide) (by rw [c57]; rfl) (by decide) ?_
    refine lv_iconst (v := 0) hx hb dX9_needs_158 (by decide) ?_
    obtain ⟨rfl, rfl⟩ := ret2 h; exact rf_iret hx hb hr hlocks hO dX9_needs_159
  have h := ite_f c57 h
  by_cases c58 : a0 = (25 : Int32)
  · have h := ite_t c58 h
    refine lv_tableIn (tgt := 158) hx hb dX9_needs_1 (by rw [c58]; decide) (by rw [c58]; decide) (by rw [c58]; rfl) (by decide) ?_
    refine lv_iconst (v := 0) hx hb dX9_needs_158 (by decide) ?_
    obtain ⟨rfl, rfl⟩ := ret2 h; exact rf_iret hx hb hr hlocks hO dX9_needs_159
  have h := ite_f c58 h
  by_cases c59 : a0 = (26 : Int32)
  · have h := ite_t c59 h
    refine lv_tableIn (tgt := 158) hx hb dX9_needs_1 (by rw [c59]; decide) (by rw [c59]; decide) (by rw [c59]; rfl) (by decide) ?_
    refine lv_iconst (v := 0) hx hb dX9_needs_158 (by decide) ?_
    obtain ⟨rfl, rfl⟩ := ret2 h; exact rf_iret hx hb hr hlocks hO dX9_needs_159
  have h := ite_f c59 h
  by_cases c60 : a0 = (27 : Int32)
  · have h := ite_t c60 h
    refine lv_tableIn (tgt := 146) hx hb dX9_needs_1 (by rw [c60]; decide) (by rw [c60]; decide) (by rw [c60]; rfl) (by decide) ?_
    refine lv_bipush (v := 10) hx hb dX9_needs_146 (by decide) ?_
    obtain ⟨rfl, rfl⟩ := ret2 h; exact rf_iret hx hb hr hlocks hO dX9_needs_148
  have h := ite_f c60 h
  by_cases c61 : a0 = (28 : Int32)
  · have h := ite_t c61 h
    refine lv_tableIn (tgt := 146) hx hb dX9_needs_1 (by rw [c61]; decide) (by rw [c61]; decide) (by rw [c61]; rfl) (by decide) ?_
    refine lv_bipush (v := 10) hx hb dX9_needs_146 (by decide) ?_
    obtain ⟨rfl, rfl⟩ := ret2 h; exact rf_iret hx hb hr hlocks hO dX9_needs_148
  have h := ite_f c61 h
  by_cases c62 : a0 = (29 : Int32)
  · have h := ite_t c62 h
    refine lv_tableIn (tgt := 169) hx hb dX9_needs_1 (by rw [c62]; decide) (by rw [c62]; decide) (by rw [c62]; rfl) (by decide) ?_
    refine lv_bipush (v := 31) hx hb dX9_needs_169 (by decide) ?_
    obtain ⟨rfl, rfl⟩ := ret2 h; exact rf_iret hx hb hr hlocks hO dX9_needs_171
  have h := ite_f c62 h
  by_cases c63 : a0 = (30 : Int32)
  · have h := ite_t c63 h
    refine lv_tableIn (tgt := 144) hx hb dX9_needs_1 (by rw [c63]; decide) (by rw [c63]; decide) (by rw [c63]; rfl) (by decide) ?_
    refine lv_iconst (v := 1) hx hb dX9_needs_144 (by decide) ?_
    obtain ⟨rfl, rfl⟩ := ret2 h; exact rf_iret hx hb hr hlocks hO dX9_needs_145
  have h := ite_f c63 h
  by_cases c64 : a0 = (31 : Int32)
  · have h := ite_t c64 h
    refine lv_tableIn (tgt := 144) hx hb dX9_needs_1 (by rw [c64]; decide) (by rw [c64]; decide) (by rw [c64]; rfl) (by decide) ?_
    refine lv_iconst (v := 1) hx hb dX9_needs_144 (by decide) ?_
    obtain ⟨rfl, rfl⟩ := ret2 h; exact rf_iret hx hb hr hlocks hO dX9_needs_145
  have h := ite_f c64 h
  refine cw_tableD (tgt := 172) hx hb dX9_needs_1 (by
    have e0 := lv_neT (a := 0) c33 (by decide)
    have e1 := lv_neT (a := 1) c34 (by decide)
    have e2 := lv_neT (a := 2) c35 (by decide)
    have e3 := lv_neT (a := 3) c36 (by decide)
    have e4 := lv_neT (a := 4) c37 (by decide)
    have e5 := lv_neT (a := 5) c38 (by decide)
    have e6 := lv_neT (a := 6) c39 (by decide)
    have e7 := lv_neT (a := 7) c40 (by decide)
    have e8 := lv_neT (a := 8) c41 (by decide)
    have e9 := lv_neT (a := 9) c42 (by decide)
    have e10 := lv_neT (a := 10) c43 (by decide)
    have e11 := lv_neT (a := 11) c44 (by decide)
    have e12 := lv_neT (a := 12) c45 (by decide)
    have e13 := lv_neT (a := 13) c46 (by decide)
    have e14 := lv_neT (a := 14) c47 (by decide)
    have e15 := lv_neT (a := 15) c48 (by decide)
    have e16 := lv_neT (a := 16) c49 (by decide)
    have e17 := lv_neT (a := 17) c50 (by decide)
    have e18 := lv_neT (a := 18) c51 (by decide)
    have e19 := lv_neT (a := 19) c52 (by decide)
    have e20 := lv_neT (a := 20) c53 (by decide)
    have e21 := lv_neT (a := 21) c54 (by decide)
    have e22 := lv_neT (a := 22) c55 (by decide)
    have e23 := lv_neT (a := 23) c56 (by decide)
    have e24 := lv_neT (a := 24) c57 (by decide)
    have e25 := lv_neT (a := 25) c58 (by decide)
    have e26 := lv_neT (a := 26) c59 (by decide)
    have e27 := lv_neT (a := 27) c60 (by decide)
    have e28 := lv_neT (a := 28) c61 (by decide)
    have e29 := lv_neT (a := 29) c62 (by decide)
    have e30 := lv_neT (a := 30) c63 (by decide)
    have e31 := lv_neT (a := 31) c64 (by decide)
    by_cases q1 : a0.toInt < 0
    · exact Or.inl q1
    by_cases q2 : (31 : Int) < a0.toInt
    · exact Or.inr (Or.inl q2)
    omega) (by decide) ?_
  refine lv_iconst (v := -1) hx hb dX9_needs_172 (by decide) ?_
  obtain ⟨rfl, rfl⟩ := ret2 h; exact rf_iret hx hb hr hlocks hO dX9_needs_173
-- CallWalkerModel wrongRow
def j_Mo_wrongRow (a0 : Nat) (a1 : Int32) (a2 : Int32) (st : CwS) : Option (Int32 × CwS) :=
  ck (ix a1 13) <|
  if (gI st 21 a0 a1.toNatClampNeg) = ((3 : Int32)) then
    some ((2 : Int32), st)
  else
    ck (ix a1 13) <|
    if (gI st 21 a0 a1.toNatClampNeg) = a2 then
      some ((0 : Int32), st)
    else
      some ((4 : Int32), st)
set_option maxHeartbeats 4000000 in
theorem x_Mo_wrongRow {a0 : Nat} {a1 : Int32} {a2 : Int32} {st : CwS} {r : Int32} {st' : CwS} (h : j_Mo_wrongRow a0 a1 a2 st = some (r, st')) : Ext st st' := by
  unfold j_Mo_wrongRow at h
  obtain ⟨-, h⟩ := ck_some h
  by_cases c2 : (gI st 21 a0 a1.toNatClampNeg) = ((3 : Int32))
  · have h := ite_t c2 h
    obtain ⟨-, rfl⟩ := ret2 h; exact (show Ext st _ from Ext.refl st)
  · have h := ite_f c2 h
    obtain ⟨-, h⟩ := ck_some h
    by_cases c4 : (gI st 21 a0 a1.toNatClampNeg) = a2
    · have h := ite_t c4 h
      obtain ⟨-, rfl⟩ := ret2 h; exact (show Ext st _ from Ext.refl st)
    · have h := ite_f c4 h
      obtain ⟨-, rfl⟩ := ret2 h; exact (show Ext st _ from Ext.refl st)
set_option maxHeartbeats 4000000 in
set_option maxRecDepth 100000 in
theorem c_Mo_wrongRow (l : Launch) (D : va_G) (A : Nat → Prop) (b0 : Nat) (cA : Nat → ClassId) (st : CwS) (a0 : Nat) (fa0 : Nat) (hf_fa0 : rfF st a0 fa0) (a1 : Int32) (a2 : Int32) (r : Int32) (st' : CwS) (h : j_Mo_wrongRow a0 a1 a2 st = some (r, st')) : Met l yX9_wrongRow (wv yX9_wrongRow cX9_wrongRow 3 (some .int)) ({ frames := 0, cells := 0, slots := 0, locals := 0 }) (va_Pc [.ref fa0, .int a1, .int a2] (rfU D A b0 cA st)) (rfQi D A b0 cA r st') (0) (0) A := by
  refine Met.ofW (cc := cX9_wrongRow) (maxL := 3) (ret := some .int) (by decide) rfl ?_
  intro p e s m args below meth c s₁ B hml hv
  obtain ⟨rfl, hP, hD, hz, hK⟩ := hv
  have hx := B.exec
  have hb := B.bytes
  have hr := B.returns
  have hts := atoms_spec (ws := wv yX9_wrongRow cX9_wrongRow 3 (some .int)) B.pre
  have hown : s.vm.findClass RX9 = some m.cls := findClass_of_methodNamed B.named
  have hlocks := B.notSynchronized
  have hO : rfO D A b0 cA s st s.heap [] := ⟨hP, hD, va_S.rf, hz⟩
  have hl := lv_entry ([.ref fa0, .int a1, .int a2]) (n := 3) (Nat.le_of_ble_eq_true rfl)
  rw [lg_entry_eq]
  generalize (lg_sl ([.ref fa0, .int a1, .int a2]) ++ List.replicate (3 - (lg_sl ([.ref fa0, .int a1, .int a2])).length) Slot.unset).toArray = ls at hl ⊢
  have hl : lv_has ls 3 [(0, .ref fa0), (1, .int a1), (2, .int a2)] := hl
  have hgw := fun (w : Cond) (h : w ∈ gwW) => hts w (List.mem_cons_of_mem _ h)
  have k100 := hgw _ w_36d04f4c
  unfold j_Mo_wrongRow at h
  refine lv_aload_n hx hb dX9_wrongRow_0 rfl (lv_at hl 0 rfl) ?_
  refine gf_MF_sorts hx hb hgw iwMF hown hK hO hf_fa0 k100 dX9_wrongRow_1 ?_
  refine lv_iload_n hx hb dX9_wrongRow_4 rfl (lv_at hl 1 rfl) ?_
  obtain ⟨hc1, h⟩ := ck_some h
  refine al_MSorts hx hb hK hO hf_fa0 hc1 dX9_wrongRow_5 ?_
  refine lv_iconst (v := 3) hx hb dX9_wrongRow_6 (by decide) ?_
  refine lv_icmp_ne (tgt := 14) hx hb dX9_wrongRow_7 (by decide) (fun c2 => ?_) (fun c2 => ?_)
  · have h := ite_f c2 h
    refine lv_aload_n hx hb dX9_wrongRow_14 rfl (lv_at hl 0 rfl) ?_
    refine gf_MF_sorts hx hb hgw iwMF hown hK hO hf_fa0 k100 dX9_wrongRow_15 ?_
    refine lv_iload_n hx hb dX9_wrongRow_18 rfl (lv_at hl 1 rfl) ?_
    obtain ⟨hc3, h⟩ := ck_some h
    refine al_MSorts hx hb hK hO hf_fa0 hc3 dX9_wrongRow_19 ?_
    refine lv_iload_n hx hb dX9_wrongRow_20 rfl (lv_at hl 2 rfl) ?_
    refine lv_icmp_eq (tgt := 28) hx hb dX9_wrongRow_21 (by decide) (fun c4 => ?_) (fun c4 => ?_)
    · have h := ite_t c4 h
      refine lv_iconst (v := 0) hx hb dX9_wrongRow_28 (by decide) ?_
      obtain ⟨rfl, rfl⟩ := ret2 h; exact rf_iret hx hb hr hlocks hO dX9_wrongRow_29
    · have h := ite_f c4 h
      refine lv_iconst (v := 4) hx hb dX9_wrongRow_24 (by decide) ?_
      refine lv_goto (tgt := 29) hx hb dX9_wrongRow_25 (by decide) ?_
      obtain ⟨rfl, rfl⟩ := ret2 h; exact rf_iret hx hb hr hlocks hO dX9_wrongRow_29
  · have h := ite_t c2 h
    refine lv_iconst (v := 2) hx hb dX9_wrongRow_10 (by decide) ?_
    refine lv_goto (tgt := 29) hx hb dX9_wrongRow_11 (by decide) ?_
    obtain ⟨rfl, rfl⟩ := ret2 h; exact rf_iret hx hb hr hlocks hO dX9_wrongRow_29
-- java/lang/Math multiplyHigh
def j_Math_multiplyHigh (a0 : Int64) (a2 : Int64) (st : CwS) : Option (Int64 × CwS) :=
  some ((((a0 >>> (((32 : Int32)).toInt64 &&& 63)) * (a2 >>> (((32 : Int32)).toInt64 &&& 63))) + ((((a0 >>> (((32 : Int32)).toInt64 &&& 63)) * (a2 &&& ((4294967295 : Int64)))) + ((((a0 &&& ((4294967295 : Int64))) * (a2 &&& ((4294967295 : Int64)))).toUInt64 >>> (((32 : Int32)).toInt64.toUInt64 &&& Int64.toUInt64 63)).toInt64)) >>> (((32 : Int32)).toInt64 &&& 63))) + ((((((a0 >>> (((32 : Int32)).toInt64 &&& 63)) * (a2 &&& ((4294967295 : Int64)))) + ((((a0 &&& ((4294967295 : Int64))) * (a2 &&& ((4294967295 : Int64)))).toUInt64 >>> (((32 : Int32)).toInt64.toUInt64 &&& Int64.toUInt64 63)).toInt64)) &&& ((4294967295 : Int64))) + ((a0 &&& ((4294967295 : Int64))) * (a2 >>> (((32 : Int32)).toInt64 &&& 63)))) >>> (((32 : Int32)).toInt64 &&& 63)), st)
set_option maxHeartbeats 4000000 in
theorem x_Math_multiplyHigh {a0 : Int64} {a2 : Int64} {st : CwS} {r : Int64} {st' : CwS} (h : j_Math_multiplyHigh a0 a2 st = some (r, st')) : Ext st st' := by
  unfold j_Math_multiplyHigh at h
  obtain ⟨-, rfl⟩ := ret2 h; exact (show Ext st _ from Ext.refl st)
set_option maxHeartbeats 4000000 in
set_option maxRecDepth 100000 in
theorem c_Math_multiplyHigh (l : Launch) (D : va_G) (A : Nat → Prop) (b0 : Nat) (cA : Nat → ClassId) (st : CwS) (a0 : Int64) (a2 : Int64) (r : Int64) (st' : CwS) (h : j_Math_multiplyHigh a0 a2 st = some (r, st')) : Met l yJ9_multiplyHigh_f86c9 (wv yJ9_multiplyHigh_f86c9 cJ9_multiplyHigh_f86c9 20 (some .long)) ({ frames := 0, cells := 0, slots := 0, locals := 0 }) (va_Pc [.long a0, .long a2] (rfU D A b0 cA st)) (rfQl D A b0 cA r st') (0) (0) A := by
  refine Met.ofWF (cc := cJ9_multiplyHigh_f86c9) (maxL := 20) (ret := some .long) (by decide +kernel) rfl ?_
  intro p e s m args below meth c s₁ B hml hv
  obtain ⟨rfl, hP, hD, hz, hK⟩ := hv
  have hx := B.exec
  have hb := B.bytes
  have hr := B.returns
  have hts := atoms_spec (ws := wv yJ9_multiplyHigh_f86c9 cJ9_multiplyHigh_f86c9 20 (some .long)) B.pre
  have hown : s.vm.findClass RJ9 = some m.cls := findClass_of_methodNamed B.named
  have hlocks := B.notSynchronized
  have hO : rfO D A b0 cA s st s.heap [] := ⟨hP, hD, va_S.rf, hz⟩
  have hl := lv_entry ([.long a0, .long a2]) (n := 20) (Nat.le_of_ble_eq_true rfl)
  rw [lg_entry_eq]
  generalize (lg_sl ([.long a0, .long a2]) ++ List.replicate (20 - (lg_sl ([.long a0, .long a2])).length) Slot.unset).toArray = ls at hl ⊢
  have hl : lv_has ls 20 [(0, .long a0), (2, .long a2)] := hl
  have hgw := fun (w : Cond) (h : w ∈ gwW) => hts w (List.mem_cons_of_mem _ h)
  have k138 := hgw _ w_702e6e74
  unfold j_Math_multiplyHigh at h
  refine lv_lload_n hx hb dJ9_multiplyHigh_f86c9_0 rfl (lv_at hl 0 rfl) ?_
  refine lv_bipush (v := 32) hx hb dJ9_multiplyHigh_f86c9_1 (by decide) ?_
  refine lv_lshr hx hb dJ9_multiplyHigh_f86c9_3 rfl ?_
  refine lv_lstore (lv' := [(4, .long (a0 >>> (((32 : Int32)).toInt64 &&& 63))), (0, .long a0), (2, .long a2)]) hx hb dJ9_multiplyHigh_f86c9_4 hl (by decide) rfl (fun ls hl => ?_)
  refine lv_lload_n hx hb dJ9_multiplyHigh_f86c9_6 rfl (lv_at hl 1 rfl) ?_
  refine lv_ldc2 hx hb hown k138 dJ9_multiplyHigh_f86c9_7 ?_
  refine lv_land hx hb dJ9_multiplyHigh_f86c9_10 ?_
  refine lv_lstore (lv' := [(6, .long (a0 &&& ((4294967295 : Int64)))), (4, .long (a0 >>> (((32 : Int32)).toInt64 &&& 63))), (0, .long a0), (2, .long a2)]) hx hb dJ9_multiplyHigh_f86c9_11 hl (by decide) rfl (fun ls hl => ?_)
  refine lv_lload_n hx hb dJ9_multiplyHigh_f86c9_13 rfl (lv_at hl 3 rfl) ?_
  refine lv_bipush (v := 32) hx hb dJ9_multiplyHigh_f86c9_14 (by decide) ?_
  refine lv_lshr hx hb dJ9_multiplyHigh_f86c9_16 rfl ?_
  refine lv_lstore (lv' := [(8, .long (a2 >>> (((32 : Int32)).toInt64 &&& 63))), (6, .long (a0 &&& ((4294967295 : Int64)))), (4, .long (a0 >>> (((32 : Int32)).toInt64 &&& 63))), (0, .long a0), (2, .long a2)]) hx hb dJ9_multiplyHigh_f86c9_17 hl (by decide) rfl (fun ls hl => ?_)
  refine lv_lload_n hx hb dJ9_multiplyHigh_f86c9_19 rfl (lv_at hl 4 rfl) ?_
  refine lv_ldc2 hx hb hown k138 dJ9_multiplyHigh_f86c9_20 ?_
  refine lv_land hx hb dJ9_multiplyHigh_f86c9_23 ?_
  refine lv_lstore (lv' := [(10, .long (a2 &&& ((4294967295 : Int64)))), (8, .long (a2 >>> (((32 : Int32)).toInt64 &&& 63))), (6, .long (a0 &&& ((4294967295 : Int64)))), (4, .long (a0 >>> (((32 : Int32)).toInt64 &&& 63))), (0, .long a0), (2, .long a2)]) hx hb dJ9_multiplyHigh_f86c9_24 hl (by decide) rfl (fun ls hl => ?_)
  refine lv_lload hx hb dJ9_multiplyHigh_f86c9_26 (lv_at hl 2 rfl) ?_
  refine lv_lload hx hb dJ9_multiplyHigh_f86c9_28 (lv_at hl 0 rfl) ?_
  refine lv_lmul hx hb dJ9_multiplyHigh_f86c9_30 ?_
  refine lv_lstore (lv' := [(12, .long ((a0 &&& ((4294967295 : Int64))) * (a2 &&& ((4294967295 : Int64))))), (10, .long (a2 &&& ((4294967295 : Int64)))), (8, .long (a2 >>> (((32 : Int32)).toInt64 &&& 63))), (6, .long (a0 &&& ((4294967295 : Int64)))), (4, .long (a0 >>> (((32 : Int32)).toInt64 &&& 63))), (0, .long a0), (2, .long a2)]) hx hb dJ9_multiplyHigh_f86c9_31 hl (by decide) rfl (fun ls hl => ?_)
  refine lv_lload hx hb dJ9_multiplyHigh_f86c9_33 (lv_at hl 4 rfl) ?_
  refine lv_lload hx hb dJ9_multiplyHigh_f86c9_35 (lv_at hl 1 rfl) ?_
  refine lv_lmul hx hb dJ9_multiplyHigh_f86c9_37 ?_
  refine lv_lload hx hb dJ9_multiplyHigh_f86c9_38 (lv_at hl 0 rfl) ?_
  refine lv_bipush (v := 32) hx hb dJ9_multiplyHigh_f86c9_40 (by decide) ?_
  refine lv_lushr hx hb dJ9_multiplyHigh_f86c9_42 rfl ?_
  refine lv_ladd hx hb dJ9_multiplyHigh_f86c9_43 ?_
  refine lv_lstore (lv' := [(14, .long (((a0 >>> (((32 : Int32)).toInt64 &&& 63)) * (a2 &&& ((4294967295 : Int64)))) + ((((a0 &&& ((4294967295 : Int64))) * (a2 &&& ((4294967295 : Int64)))).toUInt64 >>> (((32 : Int32)).toInt64.toUInt64 &&& Int64.toUInt64 63)).toInt64))), (12, .long ((a0 &&& ((4294967295 : Int64))) * (a2 &&& ((4294967295 : Int64))))), (10, .long (a2 &&& ((4294967295 : Int64)))), (8, .long (a2 >>> (((32 : Int32)).toInt64 &&& 63))), (6, .long (a0 &&& ((4294967295 : Int64)))), (4, .long (a0 >>> (((32 : Int32)).toInt64 &&& 63))), (0, .long a0), (2, .long a2)]) hx hb dJ9_multiplyHigh_f86c9_44 hl (by decide) rfl (fun ls hl => ?_)
  refine lv_lload hx hb dJ9_multiplyHigh_f86c9_46 (lv_at hl 0 rfl) ?_
  refine lv_ldc2 hx hb hown k138 dJ9_multiplyHigh_f86c9_48 ?_
  refine lv_land hx hb dJ9_multiplyHigh_f86c9_51 ?_
  refine lv_lstore (lv' := [(16, .long ((((a0 >>> (((32 : Int32)).toInt64 &&& 63)) * (a2 &&& ((4294967295 : Int64)))) + ((((a0 &&& ((4294967295 : Int64))) * (a2 &&& ((4294967295 : Int64)))).toUInt64 >>> (((32 : Int32)).toInt64.toUInt64 &&& Int64.toUInt64 63)).toInt64)) &&& ((4294967295 : Int64)))), (14, .long (((a0 >>> (((32 : Int32)).toInt64 &&& 63)) * (a2 &&& ((4294967295 : Int64)))) + ((((a0 &&& ((4294967295 : Int64))) * (a2 &&& ((4294967295 : Int64)))).toUInt64 >>> (((32 : Int32)).toInt64.toUInt64 &&& Int64.toUInt64 63)).toInt64))), (12, .long ((a0 &&& ((4294967295 : Int64))) * (a2 &&& ((4294967295 : Int64))))), (10, .long (a2 &&& ((4294967295 : Int64)))), (8, .long (a2 >>> (((32 : Int32)).toInt64 &&& 63))), (6, .long (a0 &&& ((4294967295 : Int64)))), (4, .long (a0 >>> (((32 : Int32)).toInt64 &&& 63))), (0, .long a0), (2, .long a2)]) hx hb dJ9_multiplyHigh_f86c9_52 hl (by decide) rfl (fun ls hl => ?_)
  refine lv_lload hx hb dJ9_multiplyHigh_f86c9_54 (lv_at hl 1 rfl) ?_
  refine lv_bipush (v := 32) hx hb dJ9_multiplyHigh_f86c9_56 (by decide) ?_
  refine lv_lshr hx hb dJ9_multiplyHigh_f86c9_58 rfl ?_
  refine lv_lstore (lv' := [(18, .long ((((a0 >>> (((32 : Int32)).toInt64 &&& 63)) * (a2 &&& ((4294967295 : Int64)))) + ((((a0 &&& ((4294967295 : Int64))) * (a2 &&& ((4294967295 : Int64)))).toUInt64 >>> (((32 : Int32)).toInt64.toUInt64 &&& Int64.toUInt64 63)).toInt64)) >>> (((32 : Int32)).toInt64 &&& 63))), (16, .long ((((a0 >>> (((32 : Int32)).toInt64 &&& 63)) * (a2 &&& ((4294967295 : Int64)))) + ((((a0 &&& ((4294967295 : Int64))) * (a2 &&& ((4294967295 : Int64)))).toUInt64 >>> (((32 : Int32)).toInt64.toUInt64 &&& Int64.toUInt64 63)).toInt64)) &&& ((4294967295 : Int64)))), (14, .long (((a0 >>> (((32 : Int32)).toInt64 &&& 63)) * (a2 &&& ((4294967295 : Int64)))) + ((((a0 &&& ((4294967295 : Int64))) * (a2 &&& ((4294967295 : Int64)))).toUInt64 >>> (((32 : Int32)).toInt64.toUInt64 &&& Int64.toUInt64 63)).toInt64))), (12, .long ((a0 &&& ((4294967295 : Int64))) * (a2 &&& ((4294967295 : Int64))))), (10, .long (a2 &&& ((4294967295 : Int64)))), (8, .long (a2 >>> (((32 : Int32)).toInt64 &&& 63))), (6, .long (a0 &&& ((4294967295 : Int64)))), (4, .long (a0 >>> (((32 : Int32)).toInt64 &&& 63))), (0, .long a0), (2, .long a2)]) hx hb dJ9_multiplyHigh_f86c9_59 hl (by decide) rfl (fun ls hl => ?_)
  refine lv_lload hx hb dJ9_multiplyHigh_f86c9_61 (lv_at hl 1 rfl) ?_
  refine lv_lload hx hb dJ9_multiplyHigh_f86c9_63 (lv_at hl 6 rfl) ?_
  refine lv_lload hx hb dJ9_multiplyHigh_f86c9_65 (lv_at hl 5 rfl) ?_
  refine lv_lmul hx hb dJ9_multiplyHigh_f86c9_67 ?_
  refine lv_ladd hx hb dJ9_multiplyHigh_f86c9_68 ?_
  refine lv_lstore (lv' := [(16, .long (((((a0 >>> (((32 : Int32)).toInt64 &&& 63)) * (a2 &&& ((4294967295 : Int64)))) + ((((a0 &&& ((4294967295 : Int64))) * (a2 &&& ((4294967295 : Int64)))).toUInt64 >>> (((32 : Int32)).toInt64.toUInt64 &&& Int64.toUInt64 63)).toInt64)) &&& ((4294967295 : Int64))) + ((a0 &&& ((4294967295 : Int64))) * (a2 >>> (((32 : Int32)).toInt64 &&& 63))))), (18, .long ((((a0 >>> (((32 : Int32)).toInt64 &&& 63)) * (a2 &&& ((4294967295 : Int64)))) + ((((a0 &&& ((4294967295 : Int64))) * (a2 &&& ((4294967295 : Int64)))).toUInt64 >>> (((32 : Int32)).toInt64.toUInt64 &&& Int64.toUInt64 63)).toInt64)) >>> (((32 : Int32)).toInt64 &&& 63))), (14, .long (((a0 >>> (((32 : Int32)).toInt64 &&& 63)) * (a2 &&& ((4294967295 : Int64)))) + ((((a0 &&& ((4294967295 : Int64))) * (a2 &&& ((4294967295 : Int64)))).toUInt64 >>> (((32 : Int32)).toInt64.toUInt64 &&& Int64.toUInt64 63)).toInt64))), (12, .long ((a0 &&& ((4294967295 : Int64))) * (a2 &&& ((4294967295 : Int64))))), (10, .long (a2 &&& ((4294967295 : Int64)))), (8, .long (a2 >>> (((32 : Int32)).toInt64 &&& 63))), (6, .long (a0 &&& ((4294967295 : Int64)))), (4, .long (a0 >>> (((32 : Int32)).toInt64 &&& 63))), (0, .long a0), (2, .long a2)]) hx hb dJ9_multiplyHigh_f86c9_69 hl (by decide) rfl (fun ls hl => ?_)
  refine lv_lload hx hb dJ9_multiplyHigh_f86c9_71 (lv_at hl 7 rfl) ?_
  refine lv_lload hx hb dJ9_multiplyHigh_f86c9_73 (lv_at hl 5 rfl) ?_
  refine lv_lmul hx hb dJ9_multiplyHigh_f86c9_75 ?_
  refine lv_lload hx hb dJ9_multiplyHigh_f86c9_76 (lv_at hl 1 rfl) ?_
  refine lv_ladd hx hb dJ9_multiplyHigh_f86c9_78 ?_
  refine lv_lload hx hb dJ9_multiplyHigh_f86c9_79 (lv_at hl 0 rfl) ?_
  refine lv_bipush (v := 32) hx hb dJ9_multiplyHigh_f86c9_81 (by decide) ?_
  refine lv_lshr hx hb dJ9_multiplyHigh_f86c9_83 rfl ?_
  refine lv_ladd hx hb dJ9_multiplyHigh_f86c9_84 ?_
  obtain ⟨rfl, rfl⟩ := ret2 h; exact rf_lret hx hb hr hlocks hO dJ9_multiplyHigh_f86c9_85
-- CallWalkerModel fits
def j_Mo_fits (a0 : Int32) (a1 : Int64) (a3 : Int64) (st : CwS) : Option (Int32 × CwS) :=
  if a0 = ((8 : Int32)) then
    bR (j_Math_multiplyHigh a1 a3 st) fun r9 st10 =>
    if (lg_cmp r9 ((a1 * a3) >>> (((63 : Int32)).toInt64 &&& 63))) = ((0 : Int32)) then
      some ((1 : Int32), st10)
    else
      some ((0 : Int32), st10)
  else
    if a0 = ((6 : Int32)) then
      if a0 = ((6 : Int32)) then
        if (lg_cmp ((a1 ^^^ (a1 + a3)) &&& (a3 ^^^ (a1 + a3))) ((0 : Int64))) < ((0 : Int32)) then
          some ((0 : Int32), st)
        else
          some ((1 : Int32), st)
      else
        if (lg_cmp ((a1 ^^^ a3) &&& (a1 ^^^ (a1 + a3))) ((0 : Int64))) < ((0 : Int32)) then
          some ((0 : Int32), st)
        else
          some ((1 : Int32), st)
    else
      if a0 = ((6 : Int32)) then
        if (lg_cmp ((a1 ^^^ (a1 - a3)) &&& (a3 ^^^ (a1 - a3))) ((0 : Int64))) < ((0 : Int32)) then
          some ((0 : Int32), st)
        else
          some ((1 : Int32), st)
      else
        if (lg_cmp ((a1 ^^^ a3) &&& (a1 ^^^ (a1 - a3))) ((0 : Int64))) < ((0 : Int32)) then
          some ((0 : Int32), st)
        else
          some ((1 : Int32), st)
set_option maxHeartbeats 4000000 in
theorem x_Mo_fits {a0 : Int32} {a1 : Int64} {a3 : Int64} {st : CwS} {r : Int32} {st' : CwS} (h : j_Mo_fits a0 a1 a3 st = some (r, st')) : Ext st st' := by
  unfold j_Mo_fits at h
  by_cases c1 : a0 = ((8 : Int32))
  · have h := ite_t c1 h
    obtain ⟨r9, st10, h11, h⟩ := bR_some h
    refine Ext.trans (a := st) (b := st10) (by have t := x_Math_multiplyHigh h11; exact t) ?_
    by_cases c12 : (lg_cmp r9 ((a1 * a3) >>> (((63 : Int32)).toInt64 &&& 63))) = ((0 : Int32))
    · have h := ite_t c12 h
      obtain ⟨-, rfl⟩ := ret2 h; exact (show Ext st10 _ from Ext.refl st10)
    · have h := ite_f c12 h
      obtain ⟨-, rfl⟩ := ret2 h; exact (show Ext st10 _ from Ext.refl st10)
  · have h := ite_f c1 h
    by_cases c2 : a0 = ((6 : Int32))
    · have h := ite_t c2 h
      by_cases c6 : a0 = ((6 : Int32))
      · have h := ite_t c6 h
        by_cases c8 : (lg_cmp ((a1 ^^^ (a1 + a3)) &&& (a3 ^^^ (a1 + a3))) ((0 : Int64))) < ((0 : Int32))
        · have h := ite_t c8 h
          obtain ⟨-, rfl⟩ := ret2 h; exact (show Ext st _ from Ext.refl st)
        · have h := ite_f c8 h
          obtain ⟨-, rfl⟩ := ret2 h; exact (show Ext st _ from Ext.refl st)
      · have h := ite_f c6 h
        by_cases c7 : (lg_cmp ((a1 ^^^ a3) &&& (a1 ^^^ (a1 + a3))) ((0 : Int64))) < ((0 : Int32))
        · have h := ite_t c7 h
          obtain ⟨-, rfl⟩ := ret2 h; exact (show Ext st _ from Ext.refl st)
        · have h := ite_f c7 h
          obtain ⟨-, rfl⟩ := ret2 h; exact (show Ext st _ from Ext.refl st)
    · have h := ite_f c2 h
      by_cases c3 : a0 = ((6 : Int32))
      · have h := ite_t c3 h
        by_cases c5 : (lg_cmp ((a1 ^^^ (a1 - a3)) &&& (a3 ^^^ (a1 - a3))) ((0 : Int64))) < ((0 : Int32))
        · have h := ite_t c5 h
          obtain ⟨-, rfl⟩ := ret2 h; exact (show Ext st _ from Ext.refl st)
        · have h := ite_f c5 h
          obtain ⟨-, rfl⟩ := ret2 h; exact (show Ext st _ from Ext.refl st)
      · have h := ite_f c3 h
        by_cases c4 : (lg_cmp ((a1 ^^^ a3) &&& (a1 ^^^ (a1 - a3))) ((0 : Int64))) < ((0 : Int32))
        · have h := ite_t c4 h
          obtain ⟨-, rfl⟩ := ret2 h; exact (show Ext st _ from Ext.refl st)
        · have h := ite_f c4 h
          obtain ⟨-, rfl⟩ := ret2 h; exact (show Ext st _ from Ext.refl st)
set_option maxHeartbeats 4000000 in
set_option maxRecDepth 100000 in
theorem c_Mo_fits (l : Launch) (D : va_G) (A : Nat → Prop) (b0 : Nat) (cA : Nat → ClassId) (st : CwS) (a0 : Int32) (a1 : Int64) (a3 : Int64) (r : Int32) (st' : CwS) (h : j_Mo_fits a0 a1 a3 st = some (r, st')) : Met l yX9_fits (wv yX9_fits cX9_fits 7 (some .boolean)) ({ frames := 1, cells := 0, slots := 0, locals := 39 }) (va_Pc [.int a0, .long a1, .long a3] (rfU D A b0 cA st)) (rfQi D A b0 cA r st') (0) (0) A := by
  refine Met.ofW (cc := cX9_fits) (maxL := 7) (ret := some .boolean) (by decide) rfl ?_
  intro p e s m args below meth c s₁ B hml hv
  obtain ⟨rfl, hP, hD, hz, hK⟩ := hv
  have hx := B.exec
  have hb := B.bytes
  have hr := B.returns
  have hts := atoms_spec (ws := wv yX9_fits cX9_fits 7 (some .boolean)) B.pre
  have hown : s.vm.findClass RX9 = some m.cls := findClass_of_methodNamed B.named
  have hlocks := B.notSynchronized
  have hO : rfO D A b0 cA s st s.heap [] := ⟨hP, hD, va_S.rf, hz⟩
  have hl := lv_entry ([.int a0, .long a1, .long a3]) (n := 7) (Nat.le_of_ble_eq_true rfl)
  rw [lg_entry_eq]
  generalize (lg_sl ([.int a0, .long a1, .long a3]) ++ List.replicate (7 - (lg_sl ([.int a0, .long a1, .long a3])).length) Slot.unset).toArray = ls at hl ⊢
  have hl : lv_has ls 7 [(0, .int a0), (1, .long a1), (3, .long a3)] := hl
  have hgw := fun (w : Cond) (h : w ∈ gwW) => hts w (List.mem_cons_of_mem _ h)
  unfold j_Mo_fits at h
  refine lv_iload_n hx hb dX9_fits_0 rfl (lv_at hl 0 rfl) ?_
  refine lv_bipush (v := 8) hx hb dX9_fits_1 (by decide) ?_
  refine lv_icmp_ne (tgt := 27) hx hb dX9_fits_3 (by decide) (fun c1 => ?_) (fun c1 => ?_)
  · have h := ite_f c1 h
    refine lv_iload_n hx hb dX9_fits_27 rfl (lv_at hl 0 rfl) ?_
    refine lv_bipush (v := 6) hx hb dX9_fits_28 (by decide) ?_
    refine lv_icmp_ne (tgt := 39) hx hb dX9_fits_30 (by decide) (fun c2 => ?_) (fun c2 => ?_)
    · have h := ite_f c2 h
      refine lv_lload_n hx hb dX9_fits_39 rfl (lv_at hl 1 rfl) ?_
      refine lv_lload_n hx hb dX9_fits_40 rfl (lv_at hl 2 rfl) ?_
      refine lv_lsub hx hb dX9_fits_41 ?_
      refine lv_lstore (lv' := [(5, .long (a1 - a3)), (0, .int a0), (1, .long a1), (3, .long a3)]) hx hb dX9_fits_42 hl (by decide) rfl (fun ls hl => ?_)
      refine lv_iload_n hx hb dX9_fits_44 rfl (lv_at hl 1 rfl) ?_
      refine lv_bipush (v := 6) hx hb dX9_fits_45 (by decide) ?_
      refine lv_icmp_ne (tgt := 72) hx hb dX9_fits_47 (by decide) (fun c3 => ?_) (fun c3 => ?_)
      · have h := ite_f c3 h
        refine lv_lload_n hx hb dX9_fits_72 rfl (lv_at hl 2 rfl) ?_
        refine lv_lload_n hx hb dX9_fits_73 rfl (lv_at hl 3 rfl) ?_
        refine lv_lxor hx hb dX9_fits_74 ?_
        refine lv_lload_n hx hb dX9_fits_75 rfl (lv_at hl 2 rfl) ?_
        refine lv_lload hx hb dX9_fits_76 (lv_at hl 0 rfl) ?_
        refine lv_lxor hx hb dX9_fits_78 ?_
        refine lv_land hx hb dX9_fits_79 ?_
        refine lv_lconst (v := 0) hx hb dX9_fits_80 (by decide) ?_
        refine W.lcmp hx hb dX9_fits_81 ?_
        refine lv_if_lt (tgt := 89) hx hb dX9_fits_82 (by decide) (fun c4 => ?_) (fun c4 => ?_)
        · have h := ite_t c4 h
          refine lv_iconst (v := 0) hx hb dX9_fits_89 (by decide) ?_
          obtain ⟨rfl, rfl⟩ := ret2 h; exact rf_zret hx hb hr hlocks hO rfl dX9_fits_90
        · have h := ite_f c4 h
          refine lv_iconst (v := 1) hx hb dX9_fits_85 (by decide) ?_
          refine lv_goto (tgt := 90) hx hb dX9_fits_86 (by decide) ?_
          obtain ⟨rfl, rfl⟩ := ret2 h; exact rf_zret hx hb hr hlocks hO rfl dX9_fits_90
      · have h := ite_t c3 h
        refine lv_lload_n hx hb dX9_fits_50 rfl (lv_at hl 2 rfl) ?_
        refine lv_lload hx hb dX9_fits_51 (lv_at hl 0 rfl) ?_
        refine lv_lxor hx hb dX9_fits_53 ?_
        refine lv_lload_n hx hb dX9_fits_54 rfl (lv_at hl 3 rfl) ?_
        refine lv_lload hx hb dX9_fits_55 (lv_at hl 0 rfl) ?_
        refine lv_lxor hx hb dX9_fits_57 ?_
        refine lv_land hx hb dX9_fits_58 ?_
        refine lv_lconst (v := 0) hx hb dX9_fits_59 (by decide) ?_
        refine W.lcmp hx hb dX9_fits_60 ?_
        refine lv_if_lt (tgt := 68) hx hb dX9_fits_61 (by decide) (fun c5 => ?_) (fun c5 => ?_)
        · have h := ite_t c5 h
          refine lv_iconst (v := 0) hx hb dX9_fits_68 (by decide) ?_
          refine lv_goto (tgt := 90) hx hb dX9_fits_69 (by decide) ?_
          obtain ⟨rfl, rfl⟩ := ret2 h; exact rf_zret hx hb hr hlocks hO rfl dX9_fits_90
        · have h := ite_f c5 h
          refine lv_iconst (v := 1) hx hb dX9_fits_64 (by decide) ?_
          refine lv_goto (tgt := 90) hx hb dX9_fits_65 (by decide) ?_
          obtain ⟨rfl, rfl⟩ := ret2 h; exact rf_zret hx hb hr hlocks hO rfl dX9_fits_90
    · have h := ite_t c2 h
      refine lv_lload_n hx hb dX9_fits_33 rfl (lv_at hl 1 rfl) ?_
      refine lv_lload_n hx hb dX9_fits_34 rfl (lv_at hl 2 rfl) ?_
      refine lv_ladd hx hb dX9_fits_35 ?_
      refine lv_goto (tgt := 42) hx hb dX9_fits_36 (by decide) ?_
      refine lv_lstore (lv' := [(5, .long (a1 + a3)), (0, .int a0), (1, .long a1), (3, .long a3)]) hx hb dX9_fits_42 hl (by decide) rfl (fun ls hl => ?_)
      refine lv_iload_n hx hb dX9_fits_44 rfl (lv_at hl 1 rfl) ?_
      refine lv_bipush (v := 6) hx hb dX9_fits_45 (by decide) ?_
      refine lv_icmp_ne (tgt := 72) hx hb dX9_fits_47 (by decide) (fun c6 => ?_) (fun c6 => ?_)
      · have h := ite_f c6 h
        refine lv_lload_n hx hb dX9_fits_72 rfl (lv_at hl 2 rfl) ?_
        refine lv_lload_n hx hb dX9_fits_73 rfl (lv_at hl 3 rfl) ?_
        refine lv_lxor hx hb dX9_fits_74 ?_
        refine lv_lload_n hx hb dX9_fits_75 rfl (lv_at hl 2 rfl) ?_
        refine lv_lload hx hb dX9_fits_76 (lv_at hl 0 rfl) ?_
        refine lv_lxor hx hb dX9_fits_78 ?_
        refine lv_land hx hb dX9_fits_79 ?_
        refine lv_lconst (v := 0) hx hb dX9_fits_80 (by decide) ?_
        refine W.lcmp hx hb dX9_fits_81 ?_
        refine lv_if_lt (tgt := 89) hx hb dX9_fits_82 (by decide) (fun c7 => ?_) (fun c7 => ?_)
        · have h := ite_t c7 h
          refine lv_iconst (v := 0) hx hb dX9_fits_89 (by decide) ?_
          obtain ⟨rfl, rfl⟩ := ret2 h; exact rf_zret hx hb hr hlocks hO rfl dX9_fits_90
        · have h := ite_f c7 h
          refine lv_iconst (v := 1) hx hb dX9_fits_85 (by decide) ?_
          refine lv_goto (tgt := 90) hx hb dX9_fits_86 (by decide) ?_
          obtain ⟨rfl, rfl⟩ := ret2 h; exact rf_zret hx hb hr hlocks hO rfl dX9_fits_90
      · have h := ite_t c6 h
        refine lv_lload_n hx hb dX9_fits_50 rfl (lv_at hl 2 rfl) ?_
        refine lv_lload hx hb dX9_fits_51 (lv_at hl 0 rfl) ?_
        refine lv_lxor hx hb dX9_fits_53 ?_
        refine lv_lload_n hx hb dX9_fits_54 rfl (lv_at hl 3 rfl) ?_
        refine lv_lload hx hb dX9_fits_55 (lv_at hl 0 rfl) ?_
        refine lv_lxor hx hb dX9_fits_57 ?_
        refine lv_land hx hb dX9_fits_58 ?_
        refine lv_lconst (v := 0) hx hb dX9_fits_59 (by decide) ?_
        refine W.lcmp hx hb dX9_fits_60 ?_
        refine lv_if_lt (tgt := 68) hx hb dX9_fits_61 (by decide) (fun c8 => ?_) (fun c8 => ?_)
        · have h := ite_t c8 h
          refine lv_iconst (v := 0) hx hb dX9_fits_68 (by decide) ?_
          refine lv_goto (tgt := 90) hx hb dX9_fits_69 (by decide) ?_
          obtain ⟨rfl, rfl⟩ := ret2 h; exact rf_zret hx hb hr hlocks hO rfl dX9_fits_90
        · have h := ite_f c8 h
          refine lv_iconst (v := 1) hx hb dX9_fits_64 (by decide) ?_
          refine lv_goto (tgt := 90) hx hb dX9_fits_65 (by decide) ?_
          obtain ⟨rfl, rfl⟩ := ret2 h; exact rf_zret hx hb hr hlocks hO rfl dX9_fits_90
  · have h := ite_t c1 h
    refine lv_lload_n hx hb dX9_fits_6 rfl (lv_at hl 1 rfl) ?_
    refine lv_lload_n hx hb dX9_fits_7 rfl (lv_at hl 2 rfl) ?_
    obtain ⟨r9, st10, h11, h⟩ := bR_some h
    have x_st10 : Ext st st10 := by have t := x_Math_multiplyHigh h11; exact t
    refine rf_calll (va_runS (As := [.long a1, .long a3]) (rest := []) ⟨hx, hb, hml, hown, hts⟩ (c_Math_multiplyHigh l D A b0 cA st a1 a3 r9 st10 h11) (va_cwS 2 hts (gw_S w_ed46eef6 w_19dce57d w_c7c21b6f w_e7df77bd) rfl rfl rfl (by decide +kernel) ⟨by show 0 + 1 ≤ 1; omega, by show 8 + (20 + 11) + (0) ≤ 39; omega⟩) (rf_preS hK hO) rfl rfl hl.1 rfl (lv_room (Nat.le_of_ble_eq_true rfl)) dX9_fits_8 ⟨Nat.zero_le _, Nat.zero_le _⟩) hO (fun H locs hO => ?_)
    refine lv_lload_n hx hb dX9_fits_11 rfl (lv_at hl 1 rfl) ?_
    refine lv_lload_n hx hb dX9_fits_12 rfl (lv_at hl 2 rfl) ?_
    refine lv_lmul hx hb dX9_fits_13 ?_
    refine lv_bipush (v := 63) hx hb dX9_fits_14 (by decide) ?_
    refine lv_lshr hx hb dX9_fits_16 rfl ?_
    refine W.lcmp hx hb dX9_fits_17 ?_
    refine lv_if_ne (tgt := 25) hx hb dX9_fits_18 (by decide) (fun c12 => ?_) (fun c12 => ?_)
    · have h := ite_f c12 h
      refine lv_iconst (v := 0) hx hb dX9_fits_25 (by decide) ?_
      obtain ⟨rfl, rfl⟩ := ret2 h; exact rf_zret hx hb hr hlocks hO rfl dX9_fits_26
    · have h := ite_t c12 h
      refine lv_iconst (v := 1) hx hb dX9_fits_21 (by decide) ?_
      refine lv_goto (tgt := 26) hx hb dX9_fits_22 (by decide) ?_
      obtain ⟨rfl, rfl⟩ := ret2 h; exact rf_zret hx hb hr hlocks hO rfl dX9_fits_26
-- CallWalkerModel reckoned
def j_Mo_reckoned_L79 (x1 : Nat) (x2 : Int32) (x4 : Int64) (x6 : Int64) (st : CwS) : Option (Int32 × CwS) :=
  if x2 = ((6 : Int32)) then
    bV (j_MF_number x1 (x4 + x6) st) fun st49 =>
    some ((0 : Int32), st49)
  else
    if x2 = ((7 : Int32)) then
      bV (j_MF_number x1 (x4 - x6) st) fun st46 =>
      some ((0 : Int32), st46)
    else
      if x2 = ((8 : Int32)) then
        bV (j_MF_number x1 (x4 * x6) st) fun st43 =>
        some ((0 : Int32), st43)
      else
        if x2 = ((9 : Int32)) then
          ck (!(decide (x6 = 0))) <|
          bV (j_MF_number x1 (x4 / x6) st) fun st40 =>
          some ((0 : Int32), st40)
        else
          if x2 = ((10 : Int32)) then
            ck (!(decide (x6 = 0))) <|
            bV (j_MF_number x1 (x4 - x4 / x6 * x6) st) fun st36 =>
            some ((0 : Int32), st36)
          else
            if x2 = ((11 : Int32)) then
              if ((0 : Int32)) ≤ (lg_cmp x4 x6) then
                bV (j_MF_number x1 ((0 : Int64)) st) fun st29 =>
                some ((0 : Int32), st29)
              else
                bV (j_MF_number x1 ((1 : Int64)) st) fun st32 =>
                some ((0 : Int32), st32)
            else
              if (lg_cmp x4 x6) = ((0 : Int32)) then
                bV (j_MF_number x1 ((1 : Int64)) st) fun st25 =>
                some ((0 : Int32), st25)
              else
                bV (j_MF_number x1 ((0 : Int64)) st) fun st22 =>
                some ((0 : Int32), st22)
def j_Mo_reckoned_L59 (x1 : Nat) (x2 : Int32) (x4 : Int64) (x6 : Int64) (st : CwS) : Option (Int32 × CwS) :=
  if ((8 : Int32)) < x2 then
    j_Mo_reckoned_L79 x1 x2 x4 x6 st
  else
    bR (j_Mo_fits x2 x4 x6 st) fun r51 st52 =>
    if r51 = ((0 : Int32)) then
      some ((6 : Int32), st52)
    else
      j_Mo_reckoned_L79 x1 x2 x4 x6 st52
def j_Mo_reckoned_L50 (x1 : Nat) (x2 : Int32) (x4 : Int64) (x6 : Int64) (st : CwS) : Option (Int32 × CwS) :=
  if (lg_cmp x6 ((0 : Int64))) = ((0 : Int32)) then
    some ((1 : Int32), st)
  else
    j_Mo_reckoned_L59 x1 x2 x4 x6 st
def j_Mo_reckoned (a1 : Nat) (a2 : Int32) (a3 : Int32) (st : CwS) : Option (Int32 × CwS) :=
  bR (j_MF_isNumber a1 a3 st) fun r1 st2 =>
  if r1 = ((0 : Int32)) then
    some ((4 : Int32), st2)
  else
    bR (j_MF_isNumber a1 (a3 + ((1 : Int32))) st2) fun r5 st6 =>
    if r5 = ((0 : Int32)) then
      some ((4 : Int32), st6)
    else
      ck (ix a3 13) <|
      ck (ix (a3 + ((1 : Int32))) 13) <|
      if a2 = ((9 : Int32)) then
        j_Mo_reckoned_L50 a1 a2 (gL st6 7 a1 a3.toNatClampNeg) (gL st6 7 a1 ((a3 + ((1 : Int32))).toNatClampNeg)) st6
      else
        if a2 = ((10 : Int32)) then
          j_Mo_reckoned_L50 a1 a2 (gL st6 7 a1 a3.toNatClampNeg) (gL st6 7 a1 ((a3 + ((1 : Int32))).toNatClampNeg)) st6
        else
          j_Mo_reckoned_L59 a1 a2 (gL st6 7 a1 a3.toNatClampNeg) (gL st6 7 a1 ((a3 + ((1 : Int32))).toNatClampNeg)) st6
set_option maxHeartbeats 4000000 in
theorem x_Mo_reckoned_L79 {x1 : Nat} {x2 : Int32} {x4 : Int64} {x6 : Int64} {st : CwS} {r : Int32} {st' : CwS} (h : j_Mo_reckoned_L79 x1 x2 x4 x6 st = some (r, st')) : Ext st st' := by
  unfold j_Mo_reckoned_L79 at h
  by_cases c14 : x2 = ((6 : Int32))
  · have h := ite_t c14 h
    obtain ⟨st49, h50, h⟩ := bV_some h
    refine Ext.trans (a := st) (b := st49) (by have t := x_MF_number h50; exact t) ?_
    obtain ⟨-, rfl⟩ := ret2 h; exact (show Ext st49 _ from Ext.refl st49)
  · have h := ite_f c14 h
    by_cases c15 : x2 = ((7 : Int32))
    · have h := ite_t c15 h
      obtain ⟨st46, h47, h⟩ := bV_some h
      refine Ext.trans (a := st) (b := st46) (by have t := x_MF_number h47; exact t) ?_
      obtain ⟨-, rfl⟩ := ret2 h; exact (show Ext st46 _ from Ext.refl st46)
    · have h := ite_f c15 h
      by_cases c16 : x2 = ((8 : Int32))
      · have h := ite_t c16 h
        obtain ⟨st43, h44, h⟩ := bV_some h
        refine Ext.trans (a := st) (b := st43) (by have t := x_MF_number h44; exact t) ?_
        obtain ⟨-, rfl⟩ := ret2 h; exact (show Ext st43 _ from Ext.refl st43)
      · have h := ite_f c16 h
        by_cases c17 : x2 = ((9 : Int32))
        · have h := ite_t c17 h
          obtain ⟨-, h⟩ := ck_some h
          obtain ⟨st40, h41, h⟩ := bV_some h
          refine Ext.trans (a := st) (b := st40) (by have t := x_MF_number h41; exact t) ?_
          obtain ⟨-, rfl⟩ := ret2 h; exact (show Ext st40 _ from Ext.refl st40)
        · have h := ite_f c17 h
          by_cases c18 : x2 = ((10 : Int32))
          · have h := ite_t c18 h
            obtain ⟨-, h⟩ := ck_some h
            obtain ⟨st36, h37, h⟩ := bV_some h
            refine Ext.trans (a := st) (b := st36) (by have t := x_MF_number h37; exact t) ?_
            obtain ⟨-, rfl⟩ := ret2 h; exact (show Ext st36 _ from Ext.refl st36)
          · have h := ite_f c18 h
            by_cases c19 : x2 = ((11 : Int32))
            · have h := ite_t c19 h
              by_cases c27 : ((0 : Int32)) ≤ (lg_cmp x4 x6)
              · have h := ite_t c27 h
                obtain ⟨st29, h30, h⟩ := bV_some h
                refine Ext.trans (a := st) (b := st29) (by have t := x_MF_number h30; exact t) ?_
                obtain ⟨-, rfl⟩ := ret2 h; exact (show Ext st29 _ from Ext.refl st29)
              · have h := ite_f c27 h
                obtain ⟨st32, h33, h⟩ := bV_some h
                refine Ext.trans (a := st) (b := st32) (by have t := x_MF_number h33; exact t) ?_
                obtain ⟨-, rfl⟩ := ret2 h; exact (show Ext st32 _ from Ext.refl st32)
            · have h := ite_f c19 h
              by_cases c20 : (lg_cmp x4 x6) = ((0 : Int32))
              · have h := ite_t c20 h
                obtain ⟨st25, h26, h⟩ := bV_some h
                refine Ext.trans (a := st) (b := st25) (by have t := x_MF_number h26; exact t) ?_
                obtain ⟨-, rfl⟩ := ret2 h; exact (show Ext st25 _ from Ext.refl st25)
              · have h := ite_f c20 h
                obtain ⟨st22, h23, h⟩ := bV_some h
                refine Ext.trans (a := st) (b := st22) (by have t := x_MF_number h23; exact t) ?_
                obtain ⟨-, rfl⟩ := ret2 h; exact (show Ext st22 _ from Ext.refl st22)
set_option maxHeartbeats 4000000 in
theorem x_Mo_reckoned_L59 {x1 : Nat} {x2 : Int32} {x4 : Int64} {x6 : Int64} {st : CwS} {r : Int32} {st' : CwS} (h : j_Mo_reckoned_L59 x1 x2 x4 x6 st = some (r, st')) : Ext st st' := by
  unfold j_Mo_reckoned_L59 at h
  by_cases c13 : ((8 : Int32)) < x2
  · have h := ite_t c13 h
    have t := x_Mo_reckoned_L79 h; exact (show Ext st _ from t)
  · have h := ite_f c13 h
    obtain ⟨r51, st52, h53, h⟩ := bR_some h
    refine Ext.trans (a := st) (b := st52) (by have t := x_Mo_fits h53; exact t) ?_
    by_cases c54 : r51 = ((0 : Int32))
    · have h := ite_t c54 h
      obtain ⟨-, rfl⟩ := ret2 h; exact (show Ext st52 _ from Ext.refl st52)
    · have h := ite_f c54 h
      have t := x_Mo_reckoned_L79 h; exact (show Ext st52 _ from t)
set_option maxHeartbeats 4000000 in
theorem x_Mo_reckoned_L50 {x1 : Nat} {x2 : Int32} {x4 : Int64} {x6 : Int64} {st : CwS} {r : Int32} {st' : CwS} (h : j_Mo_reckoned_L50 x1 x2 x4 x6 st = some (r, st')) : Ext st st' := by
  unfold j_Mo_reckoned_L50 at h
  by_cases c12 : (lg_cmp x6 ((0 : Int64))) = ((0 : Int32))
  · have h := ite_t c12 h
    obtain ⟨-, rfl⟩ := ret2 h; exact (show Ext st _ from Ext.refl st)
  · have h := ite_f c12 h
    have t := x_Mo_reckoned_L59 h; exact (show Ext st _ from t)
set_option maxHeartbeats 4000000 in
theorem x_Mo_reckoned {a1 : Nat} {a2 : Int32} {a3 : Int32} {st : CwS} {r : Int32} {st' : CwS} (h : j_Mo_reckoned a1 a2 a3 st = some (r, st')) : Ext st st' := by
  unfold j_Mo_reckoned at h
  obtain ⟨r1, st2, h3, h⟩ := bR_some h
  refine Ext.trans (a := st) (b := st2) (by have t := x_MF_isNumber h3; exact t) ?_
  by_cases c4 : r1 = ((0 : Int32))
  · have h := ite_t c4 h
    obtain ⟨-, rfl⟩ := ret2 h; exact (show Ext st2 _ from Ext.refl st2)
  · have h := ite_f c4 h
    obtain ⟨r5, st6, h7, h⟩ := bR_some h
    refine Ext.trans (a := st2) (b := st6) (by have t := x_MF_isNumber h7; exact t) ?_
    by_cases c8 : r5 = ((0 : Int32))
    · have h := ite_t c8 h
      obtain ⟨-, rfl⟩ := ret2 h; exact (show Ext st6 _ from Ext.refl st6)
    · have h := ite_f c8 h
      obtain ⟨-, h⟩ := ck_some h
      obtain ⟨-, h⟩ := ck_some h
      by_cases c11 : a2 = ((9 : Int32))
      · have h := ite_t c11 h
        have t := x_Mo_reckoned_L50 h; exact (show Ext st6 _ from t)
      · have h := ite_f c11 h
        by_cases c55 : a2 = ((10 : Int32))
        · have h := ite_t c55 h
          have t := x_Mo_reckoned_L50 h; exact (show Ext st6 _ from t)
        · have h := ite_f c55 h
          have t := x_Mo_reckoned_L59 h; exact (show Ext st6 _ from t)
set_option maxHeartbeats 4000000 in
set_option maxRecDepth 100000 in
theorem c_Mo_reckoned_L79 {l : Launch} {D : va_G} {A : Nat → Prop} {b0 : Nat} {cA : Nat → ClassId} {p : Program} {e : Env} {s : State} {m : MethodId} {args : Array Value} {below : List Frame} {meth : Method} {c : Code} (S : CallFix p m c cX9_reckoned 8 s args (wv yX9_reckoned cX9_reckoned 8 (some .int)) RX9) (hr : meth.sig.returnType = some .int) (hlocks : meth.locks = false) (hK : rfK D cA s) (r : Int32) (st' : CwS) (st : CwS) (x1 : Nat) (fx1 : Nat) (hf_fx1 : rfF st x1 fx1) (x2 : Int32) (x4 : Int64) (x6 : Int64) (H : Heap) (locs : List Loc) (ls : Array Slot) (h : j_Mo_reckoned_L79 x1 x2 x4 x6 st = some (r, st')) (hO : rfO D A b0 cA s st H locs) (hl : lv_has ls 8 [(1, .ref fx1), (2, .int x2), (4, .long x4), (6, .long x6)]) : W p l e ({ frames := 2, cells := 0, slots := 0, locals := 65 }) s m args below meth c H locs (0) (0) (MQ below (rfQi D A b0 cA r st') args s (0) (0) A) (F0 m 79 ls []) := by
  obtain ⟨hx, hb, hml, hown, hts⟩ := S
  have hgw := fun (w : Cond) (h : w ∈ gwW) => hts w (List.mem_cons_of_mem _ h)
  have k97 := hgw _ w_bb1741c6
  unfold j_Mo_reckoned_L79 at h
  refine lv_aload_n hx hb dX9_reckoned_79 rfl (lv_at hl 0 rfl) ?_
  refine lv_iload_n hx hb dX9_reckoned_80 rfl (lv_at hl 1 rfl) ?_
  refine lv_bipush (v := 6) hx hb dX9_reckoned_81 (by decide) ?_
  refine lv_icmp_ne (tgt := 94) hx hb dX9_reckoned_83 (by decide) (fun c14 => ?_) (fun c14 => ?_)
  · have h := ite_f c14 h
    refine lv_iload_n hx hb dX9_reckoned_94 rfl (lv_at hl 1 rfl) ?_
    refine lv_bipush (v := 7) hx hb dX9_reckoned_95 (by decide) ?_
    refine lv_icmp_ne (tgt := 108) hx hb dX9_reckoned_97 (by decide) (fun c15 => ?_) (fun c15 => ?_)
    · have h := ite_f c15 h
      refine lv_iload_n hx hb dX9_reckoned_108 rfl (lv_at hl 1 rfl) ?_
      refine lv_bipush (v := 8) hx hb dX9_reckoned_109 (by decide) ?_
      refine lv_icmp_ne (tgt := 122) hx hb dX9_reckoned_111 (by decide) (fun c16 => ?_) (fun c16 => ?_)
      · have h := ite_f c16 h
        refine lv_iload_n hx hb dX9_reckoned_122 rfl (lv_at hl 1 rfl) ?_
        refine lv_bipush (v := 9) hx hb dX9_reckoned_123 (by decide) ?_
        refine lv_icmp_ne (tgt := 136) hx hb dX9_reckoned_125 (by decide) (fun c17 => ?_) (fun c17 => ?_)
        · have h := ite_f c17 h
          refine lv_iload_n hx hb dX9_reckoned_136 rfl (lv_at hl 1 rfl) ?_
          refine lv_bipush (v := 10) hx hb dX9_reckoned_137 (by decide) ?_
          refine lv_icmp_ne (tgt := 150) hx hb dX9_reckoned_139 (by decide) (fun c18 => ?_) (fun c18 => ?_)
          · have h := ite_f c18 h
            refine lv_iload_n hx hb dX9_reckoned_150 rfl (lv_at hl 1 rfl) ?_
            refine lv_bipush (v := 11) hx hb dX9_reckoned_151 (by decide) ?_
            refine lv_icmp_ne (tgt := 172) hx hb dX9_reckoned_153 (by decide) (fun c19 => ?_) (fun c19 => ?_)
            · have h := ite_f c19 h
              refine lv_lload hx hb dX9_reckoned_172 (lv_at hl 2 rfl) ?_
              refine lv_lload hx hb dX9_reckoned_174 (lv_at hl 3 rfl) ?_
              refine W.lcmp hx hb dX9_reckoned_176 ?_
              refine lv_if_ne (tgt := 184) hx hb dX9_reckoned_177 (by decide) (fun c20 => ?_) (fun c20 => ?_)
              · have h := ite_f c20 h
                refine lv_lconst (v := 0) hx hb dX9_reckoned_184 (by decide) ?_
                obtain ⟨st22, h23, h⟩ := bV_some h
                have x_st22 : Ext st st22 := by have t := x_MF_number h23; exact t
                refine rf_callv (va_runV (As := [.long ((0 : Int64))]) (rest := []) ⟨hx, hb, hml, hown, hts⟩ (c_MF_number l D A b0 cA st x1 fx1 hf_fx1 ((0 : Int64)) st22 h23) (cwV 1 hts (gw_V w_a50611e6 w_8ebaf0f1 w_dd21e4d3 w_18ea82d2 w_54e1986d) rfl rfl rfl (by decide +kernel) ⟨by show 1 + 1 ≤ 2; omega, by show 8 + (3 + 11) + (24) ≤ 65; omega⟩) (rf_preF hf_fx1 hK hO) rfl rfl hl.1 rfl (lv_room (Nat.le_of_ble_eq_true rfl)) dX9_reckoned_185 ⟨Nat.zero_le _, Nat.zero_le _⟩) hO (fun H locs hO => ?_)
                have hf_fx1 : rfF st22 x1 fx1 := rfF.ext (show rfF st x1 fx1 from hf_fx1) x_st22
                refine lv_iconst (v := 0) hx hb dX9_reckoned_188 (by decide) ?_
                obtain ⟨rfl, rfl⟩ := ret2 h; exact rf_iret hx hb hr hlocks hO dX9_reckoned_189
              · have h := ite_t c20 h
                refine lv_lconst (v := 1) hx hb dX9_reckoned_180 (by decide) ?_
                refine lv_goto (tgt := 185) hx hb dX9_reckoned_181 (by decide) ?_
                obtain ⟨st25, h26, h⟩ := bV_some h
                have x_st25 : Ext st st25 := by have t := x_MF_number h26; exact t
                refine rf_callv (va_runV (As := [.long ((1 : Int64))]) (rest := []) ⟨hx, hb, hml, hown, hts⟩ (c_MF_number l D A b0 cA st x1 fx1 hf_fx1 ((1 : Int64)) st25 h26) (cwV 1 hts (gw_V w_a50611e6 w_8ebaf0f1 w_dd21e4d3 w_18ea82d2 w_54e1986d) rfl rfl rfl (by decide +kernel) ⟨by show 1 + 1 ≤ 2; omega, by show 8 + (3 + 11) + (24) ≤ 65; omega⟩) (rf_preF hf_fx1 hK hO) rfl rfl hl.1 rfl (lv_room (Nat.le_of_ble_eq_true rfl)) dX9_reckoned_185 ⟨Nat.zero_le _, Nat.zero_le _⟩) hO (fun H locs hO => ?_)
                have hf_fx1 : rfF st25 x1 fx1 := rfF.ext (show rfF st x1 fx1 from hf_fx1) x_st25
                refine lv_iconst (v := 0) hx hb dX9_reckoned_188 (by decide) ?_
                obtain ⟨rfl, rfl⟩ := ret2 h; exact rf_iret hx hb hr hlocks hO dX9_reckoned_189
            · have h := ite_t c19 h
              refine lv_lload hx hb dX9_reckoned_156 (lv_at hl 2 rfl) ?_
              refine lv_lload hx hb dX9_reckoned_158 (lv_at hl 3 rfl) ?_
              refine W.lcmp hx hb dX9_reckoned_160 ?_
              refine lv_if_ge (tgt := 168) hx hb dX9_reckoned_161 (by decide) (fun c27 => ?_) (fun c27 => ?_)
              · have h := ite_t c27 h
                refine lv_lconst (v := 0) hx hb dX9_reckoned_168 (by decide) ?_
                refine lv_goto (tgt := 185) hx hb dX9_reckoned_169 (by decide) ?_
                obtain ⟨st29, h30, h⟩ := bV_some h
                have x_st29 : Ext st st29 := by have t := x_MF_number h30; exact t
                refine rf_callv (va_runV (As := [.long ((0 : Int64))]) (rest := []) ⟨hx, hb, hml, hown, hts⟩ (c_MF_number l D A b0 cA st x1 fx1 hf_fx1 ((0 : Int64)) st29 h30) (cwV 1 hts (gw_V w_a50611e6 w_8ebaf0f1 w_dd21e4d3 w_18ea82d2 w_54e1986d) rfl rfl rfl (by decide +kernel) ⟨by show 1 + 1 ≤ 2; omega, by show 8 + (3 + 11) + (24) ≤ 65; omega⟩) (rf_preF hf_fx1 hK hO) rfl rfl hl.1 rfl (lv_room (Nat.le_of_ble_eq_true rfl)) dX9_reckoned_185 ⟨Nat.zero_le _, Nat.zero_le _⟩) hO (fun H locs hO => ?_)
                have hf_fx1 : rfF st29 x1 fx1 := rfF.ext (show rfF st x1 fx1 from hf_fx1) x_st29
                refine lv_iconst (v := 0) hx hb dX9_reckoned_188 (by decide) ?_
                obtain ⟨rfl, rfl⟩ := ret2 h; exact rf_iret hx hb hr hlocks hO dX9_reckoned_189
              · have h := ite_f c27 h
                refine lv_lconst (v := 1) hx hb dX9_reckoned_164 (by decide) ?_
                refine lv_goto (tgt := 185) hx hb dX9_reckoned_165 (by decide) ?_
                obtain ⟨st32, h33, h⟩ := bV_some h
                have x_st32 : Ext st st32 := by have t := x_MF_number h33; exact t
                refine rf_callv (va_runV (As := [.long ((1 : Int64))]) (rest := []) ⟨hx, hb, hml, hown, hts⟩ (c_MF_number l D A b0 cA st x1 fx1 hf_fx1 ((1 : Int64)) st32 h33) (cwV 1 hts (gw_V w_a50611e6 w_8ebaf0f1 w_dd21e4d3 w_18ea82d2 w_54e1986d) rfl rfl rfl (by decide +kernel) ⟨by show 1 + 1 ≤ 2; omega, by show 8 + (3 + 11) + (24) ≤ 65; omega⟩) (rf_preF hf_fx1 hK hO) rfl rfl hl.1 rfl (lv_room (Nat.le_of_ble_eq_true rfl)) dX9_reckoned_185 ⟨Nat.zero_le _, Nat.zero_le _⟩) hO (fun H locs hO => ?_)
                have hf_fx1 : rfF st32 x1 fx1 := rfF.ext (show rfF st x1 fx1 from hf_fx1) x_st32
                refine lv_iconst (v := 0) hx hb dX9_reckoned_188 (by decide) ?_
                obtain ⟨rfl, rfl⟩ := ret2 h; exact rf_iret hx hb hr hlocks hO dX9_reckoned_189
          · have h := ite_t c18 h
            refine lv_lload hx hb dX9_reckoned_142 (lv_at hl 2 rfl) ?_
            refine lv_lload hx hb dX9_reckoned_144 (lv_at hl 3 rfl) ?_
            obtain ⟨hc34, h⟩ := ck_some h
            refine lv_lrem hx hb dX9_reckoned_146 (ck_ne hc34) ?_
            refine lv_goto (tgt := 185) hx hb dX9_reckoned_147 (by decide) ?_
            obtain ⟨st36, h37, h⟩ := bV_some h
            have x_st36 : Ext st st36 := by have t := x_MF_number h37; exact t
            refine rf_callv (va_runV (As := [.long (x4 - x4 / x6 * x6)]) (rest := []) ⟨hx, hb, hml, hown, hts⟩ (c_MF_number l D A b0 cA st x1 fx1 hf_fx1 (x4 - x4 / x6 * x6) st36 h37) (cwV 1 hts (gw_V w_a50611e6 w_8ebaf0f1 w_dd21e4d3 w_18ea82d2 w_54e1986d) rfl rfl rfl (by decide +kernel) ⟨by show 1 + 1 ≤ 2; omega, by show 8 + (3 + 11) + (24) ≤ 65; omega⟩) (rf_preF hf_fx1 hK hO) rfl rfl hl.1 rfl (lv_room (Nat.le_of_ble_eq_true rfl)) dX9_reckoned_185 ⟨Nat.zero_le _, Nat.zero_le _⟩) hO (fun H locs hO => ?_)
            have hf_fx1 : rfF st36 x1 fx1 := rfF.ext (show rfF st x1 fx1 from hf_fx1) x_st36
            refine lv_iconst (v := 0) hx hb dX9_reckoned_188 (by decide) ?_
            obtain ⟨rfl, rfl⟩ := ret2 h; exact rf_iret hx hb hr hlocks hO dX9_reckoned_189
        · have h := ite_t c17 h
          refine lv_lload hx hb dX9_reckoned_128 (lv_at hl 2 rfl) ?_
          refine lv_lload hx hb dX9_reckoned_130 (lv_at hl 3 rfl) ?_
          obtain ⟨hc38, h⟩ := ck_some h
          refine lv_ldiv hx hb dX9_reckoned_132 (ck_ne hc38) ?_
          refine lv_goto (tgt := 185) hx hb dX9_reckoned_133 (by decide) ?_
          obtain ⟨st40, h41, h⟩ := bV_some h
          have x_st40 : Ext st st40 := by have t := x_MF_number h41; exact t
          refine rf_callv (va_runV (As := [.long (x4 / x6)]) (rest := []) ⟨hx, hb, hml, hown, hts⟩ (c_MF_number l D A b0 cA st x1 fx1 hf_fx1 (x4 / x6) st40 h41) (cwV 1 hts (gw_V w_a50611e6 w_8ebaf0f1 w_dd21e4d3 w_18ea82d2 w_54e1986d) rfl rfl rfl (by decide +kernel) ⟨by show 1 + 1 ≤ 2; omega, by show 8 + (3 + 11) + (24) ≤ 65; omega⟩) (rf_preF hf_fx1 hK hO) rfl rfl hl.1 rfl (lv_room (Nat.le_of_ble_eq_true rfl)) dX9_reckoned_185 ⟨Nat.zero_le _, Nat.zero_le _⟩) hO (fun H locs hO => ?_)
          have hf_fx1 : rfF st40 x1 fx1 := rfF.ext (show rfF st x1 fx1 from hf_fx1) x_st40
          refine lv_iconst (v := 0) hx hb dX9_reckoned_188 (by decide) ?_
          obtain ⟨rfl, rfl⟩ := ret2 h; exact rf_iret hx hb hr hlocks hO dX9_reckoned_189
      · have h := ite_t c16 h
        refine lv_lload hx hb dX9_reckoned_114 (lv_at hl 2 rfl) ?_
        refine lv_lload hx hb dX9_reckoned_116 (lv_at hl 3 rfl) ?_
        refine lv_lmul hx hb dX9_reckoned_118 ?_
        refine lv_goto (tgt := 185) hx hb dX9_reckoned_119 (by decide) ?_
        obtain ⟨st43, h44, h⟩ := bV_some h
        have x_st43 : Ext st st43 := by have t := x_MF_number h44; exact t
        refine rf_callv (va_runV (As := [.long (x4 * x6)]) (rest := []) ⟨hx, hb, hml, hown, hts⟩ (c_MF_number l D A b0 cA st x1 fx1 hf_fx1 (x4 * x6) st43 h44) (cwV 1 hts (gw_V w_a50611e6 w_8ebaf0f1 w_dd21e4d3 w_18ea82d2 w_54e1986d) rfl rfl rfl (by decide +kernel) ⟨by show 1 + 1 ≤ 2; omega, by show 8 + (3 + 11) + (24) ≤ 65; omega⟩) (rf_preF hf_fx1 hK hO) rfl rfl hl.1 rfl (lv_room (Nat.le_of_ble_eq_true rfl)) dX9_reckoned_185 ⟨Nat.zero_le _, Nat.zero_le _⟩) hO (fun H locs hO => ?_)
        have hf_fx1 : rfF st43 x1 fx1 := rfF.ext (show rfF st x1 fx1 from hf_fx1) x_st43
        refine lv_iconst (v := 0) hx hb dX9_reckoned_188 (by decide) ?_
        obtain ⟨rfl, rfl⟩ := ret2 h; exact rf_iret hx hb hr hlocks hO dX9_reckoned_189
    · have h := ite_t c15 h
      refine lv_lload hx hb dX9_reckoned_100 (lv_at hl 2 rfl) ?_
      refine lv_lload hx hb dX9_reckoned_102 (lv_at hl 3 rfl) ?_
      refine lv_lsub hx hb dX9_reckoned_104 ?_
      refine lv_goto (tgt := 185) hx hb dX9_reckoned_105 (by decide) ?_
      obtain ⟨st46, h47, h⟩ := bV_some h
      have x_st46 : Ext st st46 := by have t := x_MF_number h47; exact t
      refine rf_callv (va_runV (As := [.long (x4 - x6)]) (rest := []) ⟨hx, hb, hml, hown, hts⟩ (c_MF_number l D A b0 cA st x1 fx1 hf_fx1 (x4 - x6) st46 h47) (cwV 1 hts (gw_V w_a50611e6 w_8ebaf0f1 w_dd21e4d3 w_18ea82d2 w_54e1986d) rfl rfl rfl (by decide +kernel) ⟨by show 1 + 1 ≤ 2; omega, by show 8 + (3 + 11) + (24) ≤ 65; omega⟩) (rf_preF hf_fx1 hK hO) rfl rfl hl.1 rfl (lv_room (Nat.le_of_ble_eq_true rfl)) dX9_reckoned_185 ⟨Nat.zero_le _, Nat.zero_le _⟩) hO (fun H locs hO => ?_)
      have hf_fx1 : rfF st46 x1 fx1 := rfF.ext (show rfF st x1 fx1 from hf_fx1) x_st46
      refine lv_iconst (v := 0) hx hb dX9_reckoned_188 (by decide) ?_
      obtain ⟨rfl, rfl⟩ := ret2 h; exact rf_iret hx hb hr hlocks hO dX9_reckoned_189
  · have h := ite_t c14 h
    refine lv_lload hx hb dX9_reckoned_86 (lv_at hl 2 rfl) ?_
    refine lv_lload hx hb dX9_reckoned_88 (lv_at hl 3 rfl) ?_
    refine lv_ladd hx hb dX9_reckoned_90 ?_
    refine lv_goto (tgt := 185) hx hb dX9_reckoned_91 (by decide) ?_
    obtain ⟨st49, h50, h⟩ := bV_some h
    have x_st49 : Ext st st49 := by have t := x_MF_number h50; exact t
    refine rf_callv (va_runV (As := [.long (x4 + x6)]) (rest := []) ⟨hx, hb, hml, hown, hts⟩ (c_MF_number l D A b0 cA st x1 fx1 hf_fx1 (x4 + x6) st49 h50) (cwV 1 hts (gw_V w_a50611e6 w_8ebaf0f1 w_dd21e4d3 w_18ea82d2 w_54e1986d) rfl rfl rfl (by decide +kernel) ⟨by show 1 + 1 ≤ 2; omega, by show 8 + (3 + 11) + (24) ≤ 65; omega⟩) (rf_preF hf_fx1 hK hO) rfl rfl hl.1 rfl (lv_room (Nat.le_of_ble_eq_true rfl)) dX9_reckoned_185 ⟨Nat.zero_le _, Nat.zero_le _⟩) hO (fun H locs hO => ?_)
    have hf_fx1 : rfF st49 x1 fx1 := rfF.ext (show rfF st x1 fx1 from hf_fx1) x_st49
    refine lv_iconst (v := 0) hx hb dX9_reckoned_188 (by decide) ?_
    obtain ⟨rfl, rfl⟩ := ret2 h; exact rf_iret hx hb hr hlocks hO dX9_reckoned_189
set_option maxHeartbeats 4000000 in
set_option maxRecDepth 100000 in
theorem c_Mo_reckoned_L59 {l : Launch} {D : va_G} {A : Nat → Prop} {b0 : Nat} {cA : Nat → ClassId} {p : Program} {e : Env} {s : State} {m : MethodId} {args : Array Value} {below : List Frame} {meth : Method} {c : Code} (S : CallFix p m c cX9_reckoned 8 s args (wv yX9_reckoned cX9_reckoned 8 (some .int)) RX9) (hr : meth.sig.returnType = some .int) (hlocks : meth.locks = false) (hK : rfK D cA s) (r : Int32) (st' : CwS) (st : CwS) (x1 : Nat) (fx1 : Nat) (hf_fx1 : rfF st x1 fx1) (x2 : Int32) (x4 : Int64) (x6 : Int64) (H : Heap) (locs : List Loc) (ls : Array Slot) (h : j_Mo_reckoned_L59 x1 x2 x4 x6 st = some (r, st')) (hO : rfO D A b0 cA s st H locs) (hl : lv_has ls 8 [(1, .ref fx1), (2, .int x2), (4, .long x4), (6, .long x6)]) : W p l e ({ frames := 2, cells := 0, slots := 0, locals := 65 }) s m args below meth c H locs (0) (0) (MQ below (rfQi D A b0 cA r st') args s (0) (0) A) (F0 m 59 ls []) := by
  obtain ⟨hx, hb, hml, hown, hts⟩ := S
  have hgw := fun (w : Cond) (h : w ∈ gwW) => hts w (List.mem_cons_of_mem _ h)
  have k97 := hgw _ w_bb1741c6
  unfold j_Mo_reckoned_L59 at h
  refine lv_iload_n hx hb dX9_reckoned_59 rfl (lv_at hl 1 rfl) ?_
  refine lv_bipush (v := 8) hx hb dX9_reckoned_60 (by decide) ?_
  refine lv_icmp_gt (tgt := 79) hx hb dX9_reckoned_62 (by decide) (fun c13 => ?_) (fun c13 => ?_)
  · have h := ite_t c13 h
    exact c_Mo_reckoned_L79 ⟨hx, hb, hml, hown, hts⟩ hr hlocks hK r st' st x1 fx1 hf_fx1 x2 x4 x6 _ _ _ h hO (lv_sub hl [0, 1, 2, 3] rfl)
  · have h := ite_f c13 h
    refine lv_iload_n hx hb dX9_reckoned_65 rfl (lv_at hl 1 rfl) ?_
    refine lv_lload hx hb dX9_reckoned_66 (lv_at hl 2 rfl) ?_
    refine lv_lload hx hb dX9_reckoned_68 (lv_at hl 3 rfl) ?_
    obtain ⟨r51, st52, h53, h⟩ := bR_some h
    have x_st52 : Ext st st52 := by have t := x_Mo_fits h53; exact t
    refine rf_calli (va_runS (As := [.int x2, .long x4, .long x6]) (rest := []) ⟨hx, hb, hml, hown, hts⟩ (c_Mo_fits l D A b0 cA st x2 x4 x6 r51 st52 h53) (va_cwS 3 hts (gw_S w_d3e26e9d w_e4e1da98 w_18f41a94 w_2883e263) rfl rfl rfl (by decide +kernel) ⟨by show 1 + 1 ≤ 2; omega, by show 8 + (7 + 11) + (39) ≤ 65; omega⟩) (rf_preS hK hO) rfl rfl hl.1 rfl (lv_room (Nat.le_of_ble_eq_true rfl)) dX9_reckoned_70 ⟨Nat.zero_le _, Nat.zero_le _⟩) hO (fun H locs hO => ?_)
    have hf_fx1 : rfF st52 x1 fx1 := rfF.ext (show rfF st x1 fx1 from hf_fx1) x_st52
    refine lv_if_ne (tgt := 79) hx hb dX9_reckoned_73 (by decide) (fun c54 => ?_) (fun c54 => ?_)
    · have h := ite_f c54 h
      exact c_Mo_reckoned_L79 ⟨hx, hb, hml, hown, hts⟩ hr hlocks hK r st' st52 x1 fx1 hf_fx1 x2 x4 x6 _ _ _ h hO (lv_sub hl [0, 1, 2, 3] rfl)
    · have h := ite_t c54 h
      refine lv_bipush (v := 6) hx hb dX9_reckoned_76 (by decide) ?_
      obtain ⟨rfl, rfl⟩ := ret2 h; exact rf_iret hx hb hr hlocks hO dX9_reckoned_78
set_option maxHeartbeats 4000000 in
set_option maxRecDepth 100000 in
theorem c_Mo_reckoned_L50 {l : Launch} {D : va_G} {A : Nat → Prop} {b0 : Nat} {cA : Nat → ClassId} {p : Program} {e : Env} {s : State} {m : MethodId} {args : Array Value} {below : List Frame} {meth : Method} {c : Code} (S : CallFix p m c cX9_reckoned 8 s args (wv yX9_reckoned cX9_reckoned 8 (some .int)) RX9) (hr : meth.sig.returnType = some .int) (hlocks : meth.locks = false) (hK : rfK D cA s) (r : Int32) (st' : CwS) (st : CwS) (x1 : Nat) (fx1 : Nat) (hf_fx1 : rfF st x1 fx1) (x2 : Int32) (x4 : Int64) (x6 : Int64) (H : Heap) (locs : List Loc) (ls : Array Slot) (h : j_Mo_reckoned_L50 x1 x2 x4 x6 st = some (r, st')) (hO : rfO D A b0 cA s st H locs) (hl : lv_has ls 8 [(1, .ref fx1), (2, .int x2), (4, .long x4), (6, .long x6)]) : W p l e ({ frames := 2, cells := 0, slots := 0, locals := 65 }) s m args below meth c H locs (0) (0) (MQ below (rfQi D A b0 cA r st') args s (0) (0) A) (F0 m 50 ls []) := by
  obtain ⟨hx, hb, hml, hown, hts⟩ := S
  have hgw := fun (w : Cond) (h : w ∈ gwW) => hts w (List.mem_cons_of_mem _ h)
  have k97 := hgw _ w_bb1741c6
  unfold j_Mo_reckoned_L50 at h
  refine lv_lload hx hb dX9_reckoned_50 (lv_at hl 3 rfl) ?_
  refine lv_lconst (v := 0) hx hb dX9_reckoned_52 (by decide) ?_
  refine W.lcmp hx hb dX9_reckoned_53 ?_
  refine lv_if_ne (tgt := 59) hx hb dX9_reckoned_54 (by decide) (fun c12 => ?_) (fun c12 => ?_)
  · have h := ite_f c12 h
    exact c_Mo_reckoned_L59 ⟨hx, hb, hml, hown, hts⟩ hr hlocks hK r st' st x1 fx1 hf_fx1 x2 x4 x6 _ _ _ h hO (lv_sub hl [0, 1, 2, 3] rfl)
  · have h := ite_t c12 h
    refine lv_iconst (v := 1) hx hb dX9_reckoned_57 (by decide) ?_
    obtain ⟨rfl, rfl⟩ := ret2 h; exact rf_iret hx hb hr hlocks hO dX9_reckoned_58
set_option maxHeartbeats 4000000 in
set_option maxRecDepth 100000 in
theorem c_Mo_reckoned (l : Launch) (D : va_G) (A : Nat → Prop) (b0 : Nat) (cA : Nat → ClassId) (st : CwS) (a1 : Nat) (fa1 : Nat) (hf_fa1 : rfF st a1 fa1) (a2 : Int32) (a3 : Int32) (r : Int32) (st' : CwS) (h : j_Mo_reckoned a1 a2 a3 st = some (r, st')) : Met l yX9_reckoned (wv yX9_reckoned cX9_reckoned 8 (some .int)) ({ frames := 2, cells := 0, slots := 0, locals := 65 }) (va_Pc [.ref b0, .ref fa1, .int a2, .int a3] (rfU D A b0 cA st)) (rfQi D A b0 cA r st') (0) (0) A := by
  refine Met.ofW (cc := cX9_reckoned) (maxL := 8) (ret := some .int) (by decide) rfl ?_
  intro p e s m args below meth c s₁ B hml hv
  obtain ⟨rfl, hP, hD, hz, hK⟩ := hv
  have hx := B.exec
  have hb := B.bytes
  have hr := B.returns
  have hts := atoms_spec (ws := wv yX9_reckoned cX9_reckoned 8 (some .int)) B.pre
  have hown : s.vm.findClass RX9 = some m.cls := findClass_of_methodNamed B.named
  have hlocks := B.notSynchronized
  have hO : rfO D A b0 cA s st s.heap [] := ⟨hP, hD, va_S.rf, hz⟩
  have hl := lv_entry ([.ref b0, .ref fa1, .int a2, .int a3]) (n := 8) (Nat.le_of_ble_eq_true rfl)
  rw [lg_entry_eq]
  generalize (lg_sl ([.ref b0, .ref fa1, .int a2, .int a3]) ++ List.replicate (8 - (lg_sl ([.ref b0, .ref fa1, .int a2, .int a3])).length) Slot.unset).toArray = ls at hl ⊢
  have hl : lv_has ls 8 [(0, .ref b0), (1, .ref fa1), (2, .int a2), (3, .int a3)] := hl
  have hgw := fun (w : Cond) (h : w ∈ gwW) => hts w (List.mem_cons_of_mem _ h)
  have k97 := hgw _ w_bb1741c6
  unfold j_Mo_reckoned at h
  refine lv_aload_n hx hb dX9_reckoned_0 rfl (lv_at hl 1 rfl) ?_
  refine lv_iload_n hx hb dX9_reckoned_1 rfl (lv_at hl 3 rfl) ?_
  obtain ⟨r1, st2, h3, h⟩ := bR_some h
  have x_st2 : Ext st st2 := by have t := x_MF_isNumber h3; exact t
  refine rf_calli (va_runV (As := [.int a3]) (rest := []) ⟨hx, hb, hml, hown, hts⟩ (c_MF_isNumber l D A b0 cA st a1 fa1 hf_fa1 a3 r1 st2 h3) (cwV 1 hts (gw_V w_c76bdf02 w_8ae0f39a w_9dc8e263 w_18ea82d2 w_a2deccac) rfl rfl rfl (by decide +kernel) ⟨by show 0 + 1 ≤ 2; omega, by show 8 + (2 + 11) + (0) ≤ 65; omega⟩) (rf_preF hf_fa1 hK hO) rfl rfl hl.1 rfl (lv_room (Nat.le_of_ble_eq_true rfl)) dX9_reckoned_2 ⟨Nat.zero_le _, Nat.zero_le _⟩) hO (fun H locs hO => ?_)
  have hf_fa1 : rfF st2 a1 fa1 := rfF.ext (show rfF st a1 fa1 from hf_fa1) x_st2
  refine lv_if_eq (tgt := 18) hx hb dX9_reckoned_5 (by decide) (fun c4 => ?_) (fun c4 => ?_)
  · have h := ite_t c4 h
    refine lv_iconst (v := 4) hx hb dX9_reckoned_18 (by decide) ?_
    obtain ⟨rfl, rfl⟩ := ret2 h; exact rf_iret hx hb hr hlocks hO dX9_reckoned_19
  · have h := ite_f c4 h
    refine lv_aload_n hx hb dX9_reckoned_8 rfl (lv_at hl 1 rfl) ?_
    refine lv_iload_n hx hb dX9_reckoned_9 rfl (lv_at hl 3 rfl) ?_
    refine lv_iconst (v := 1) hx hb dX9_reckoned_10 (by decide) ?_
    refine lv_iadd hx hb dX9_reckoned_11 ?_
    obtain ⟨r5, st6, h7, h⟩ := bR_some h
    have x_st6 : Ext st2 st6 := by have t := x_MF_isNumber h7; exact t
    refine rf_calli (va_runV (As := [.int (a3 + ((1 : Int32)))]) (rest := []) ⟨hx, hb, hml, hown, hts⟩ (c_MF_isNumber l D A b0 cA st2 a1 fa1 hf_fa1 (a3 + ((1 : Int32))) r5 st6 h7) (cwV 1 hts (gw_V w_c76bdf02 w_8ae0f39a w_9dc8e263 w_18ea82d2 w_a2deccac) rfl rfl rfl (by decide +kernel) ⟨by show 0 + 1 ≤ 2; omega, by show 8 + (2 + 11) + (0) ≤ 65; omega⟩) (rf_preF hf_fa1 hK hO) rfl rfl hl.1 rfl (lv_room (Nat.le_of_ble_eq_true rfl)) dX9_reckoned_12 ⟨Nat.zero_le _, Nat.zero_le _⟩) hO (fun H locs hO => ?_)
    have hf_fa1 : rfF st6 a1 fa1 := rfF.ext (show rfF st2 a1 fa1 from hf_fa1) x_st6
    refine lv_if_ne (tgt := 20) hx hb dX9_reckoned_15 (by decide) (fun c8 => ?_) (fun c8 => ?_)
    · have h := ite_f c8 h
      refine lv_aload_n hx hb dX9_reckoned_20 rfl (lv_at hl 1 rfl) ?_
      refine gf_MF_n hx hb hgw iwMF hown hK hO hf_fa1 k97 dX9_reckoned_21 ?_
      refine lv_iload_n hx hb dX9_reckoned_24 rfl (lv_at hl 3 rfl) ?_
      obtain ⟨hc9, h⟩ := ck_some h
      refine al_MN hx hb hK hO hf_fa1 hc9 dX9_reckoned_25 ?_
      refine lv_lstore (lv' := [(4, .long (gL st6 7 a1 a3.toNatClampNeg)), (0, .ref b0), (1, .ref fa1), (2, .int a2), (3, .int a3)]) hx hb dX9_reckoned_26 hl (by decide) rfl (fun ls hl => ?_)
      refine lv_aload_n hx hb dX9_reckoned_28 rfl (lv_at hl 2 rfl) ?_
      refine gf_MF_n hx hb hgw iwMF hown hK hO hf_fa1 k97 dX9_reckoned_29 ?_
      refine lv_iload_n hx hb dX9_reckoned_32 rfl (lv_at hl 4 rfl) ?_
      refine lv_iconst (v := 1) hx hb dX9_reckoned_33 (by decide) ?_
      refine lv_iadd hx hb dX9_reckoned_34 ?_
      obtain ⟨hc10, h⟩ := ck_some h
      refine al_MN hx hb hK hO hf_fa1 hc10 dX9_reckoned_35 ?_
      refine lv_lstore (lv' := [(6, .long (gL st6 7 a1 ((a3 + ((1 : Int32))).toNatClampNeg))), (4, .long (gL st6 7 a1 a3.toNatClampNeg)), (0, .ref b0), (1, .ref fa1), (2, .int a2), (3, .int a3)]) hx hb dX9_reckoned_36 hl (by decide) rfl (fun ls hl => ?_)
      refine lv_iload_n hx hb dX9_reckoned_38 rfl (lv_at hl 4 rfl) ?_
      refine lv_bipush (v := 9) hx hb dX9_reckoned_39 (by decide) ?_
      refine lv_icmp_eq (tgt := 50) hx hb dX9_reckoned_41 (by decide) (fun c11 => ?_) (fun c11 => ?_)
      · have h := ite_t c11 h
        exact c_Mo_reckoned_L50 ⟨hx, hb, hml, hown, hts⟩ hr hlocks hK r st' st6 a1 fa1 hf_fa1 a2 (gL st6 7 a1 a3.toNatClampNeg) (gL st6 7 a1 ((a3 + ((1 : Int32))).toNatClampNeg)) _ _ _ h hO (lv_sub hl [3, 4, 1, 0] rfl)
      · have h := ite_f c11 h
        refine lv_iload_n hx hb dX9_reckoned_44 rfl (lv_at hl 4 rfl) ?_
        refine lv_bipush (v := 10) hx hb dX9_reckoned_45 (by decide) ?_
        refine lv_icmp_ne (tgt := 59) hx hb dX9_reckoned_47 (by decide) (fun c55 => ?_) (fun c55 => ?_)
        · have h := ite_f c55 h
          exact c_Mo_reckoned_L59 ⟨hx, hb, hml, hown, hts⟩ hr hlocks hK r st' st6 a1 fa1 hf_fa1 a2 (gL st6 7 a1 a3.toNatClampNeg) (gL st6 7 a1 ((a3 + ((1 : Int32))).toNatClampNeg)) _ _ _ h hO (lv_sub hl [3, 4, 1, 0] rfl)
        · have h := ite_t c55 h
          exact c_Mo_reckoned_L50 ⟨hx, hb, hml, hown, hts⟩ hr hlocks hK r st' st6 a1 fa1 hf_fa1 a2 (gL st6 7 a1 a3.toNatClampNeg) (gL st6 7 a1 ((a3 + ((1 : Int32))).toNatClampNeg)) _ _ _ h hO (lv_sub hl [3, 4, 1, 0] rfl)
    · have h := ite_t c8 h
      refine lv_iconst (v := 4) hx hb dX9_reckoned_18 (by decide) ?_
      obtain ⟨rfl, rfl⟩ := ret2 h; exact rf_iret hx hb hr hlocks hO dX9_reckoned_19
