-- CW isContract
def j_CW_isContract (a0 : Int32) (st : CwS) : Option (Int32 × CwS) :=
  if a0 < ((0 : Int32)) then
    some ((0 : Int32), st)
  else
    if ((8 : Int32)) ≤ a0 then
      some ((0 : Int32), st)
    else
      some ((1 : Int32), st)
set_option maxHeartbeats 4000000 in
set_option maxRecDepth 100000 in
theorem c_CW_isContract (l : Launch) (D : va_G) (A : Nat → Prop) (ad : Nat → Nat) (cA : Nat → ClassId) (tb0 tb1 : Nat) (a0 : Int32) (st : CwS) (r : Int32) (st' : CwS) (h : j_CW_isContract a0 st = some (r, st')) : Met l yX7_isContract (wv yX7_isContract cX7_isContract 1 (some .boolean)) ({ frames := 0, cells := 0, slots := 0, locals := 0 }) (va_Pc [.int a0] (cwU D A ad cA tb0 tb1 st)) (cwQi D A ad cA tb0 tb1 r st') 0 0 A := by
  refine Met.ofW (cc := cX7_isContract) (maxL := 1) (ret := some .boolean) (by decide) rfl ?_
  intro p e s m args below meth c s₁ B hml hv
  obtain ⟨rfl, hP, hK⟩ := hv
  have hx := B.exec
  have hb := B.bytes
  have hr := B.returns
  have hts := atoms_spec (ws := wv yX7_isContract cX7_isContract 1 (some .boolean)) B.pre
  have hown : s.vm.findClass RX7 = some m.cls := findClass_of_methodNamed B.named
  have hlocks := B.notSynchronized
  have hO : cwO D A ad cA s st s.heap [] := ⟨hP, va_S.rf⟩
  have hl := lv_entry ([.int a0]) (n := 1) (Nat.le_of_ble_eq_true rfl)
  rw [lg_entry_eq]
  generalize (lg_sl ([.int a0]) ++ List.replicate (1 - (lg_sl ([.int a0])).length) Slot.unset).toArray = ls at hl ⊢
  have hl : lv_has ls 1 [(0, .int a0)] := hl
  have _h0 := hO
  have hgw := fun (w : Cond) (h : w ∈ gwW) => hts w (List.mem_cons_of_mem _ h)
  unfold j_CW_isContract at h
  refine lv_iload_n hx hb dX7_isContract_0 rfl (lv_at hl 0 rfl) ?_
  refine lv_if_lt (tgt := 14) hx hb dX7_isContract_1 (by decide) (fun c1 => ?_) (fun c1 => ?_)
  · have h := ite_t c1 h
    refine lv_iconst (v := 0) hx hb dX7_isContract_14 (by decide) ?_
    obtain ⟨rfl, rfl⟩ := ret2 h; exact cw_zret hx hb hr hlocks hO rfl dX7_isContract_15
  · have h := ite_f c1 h
    refine lv_iload_n hx hb dX7_isContract_4 rfl (lv_at hl 0 rfl) ?_
    refine lv_bipush (v := 8) hx hb dX7_isContract_5 (by decide) ?_
    refine lv_icmp_ge (tgt := 14) hx hb dX7_isContract_7 (by decide) (fun c2 => ?_) (fun c2 => ?_)
    · have h := ite_t c2 h
      refine lv_iconst (v := 0) hx hb dX7_isContract_14 (by decide) ?_
      obtain ⟨rfl, rfl⟩ := ret2 h; exact cw_zret hx hb hr hlocks hO rfl dX7_isContract_15
    · have h := ite_f c2 h
      refine lv_iconst (v := 1) hx hb dX7_isContract_10 (by decide) ?_
      refine lv_goto (tgt := 15) hx hb dX7_isContract_11 (by decide) ?_
      obtain ⟨rfl, rfl⟩ := ret2 h; exact cw_zret hx hb hr hlocks hO rfl dX7_isContract_15
-- CW isBehaviour
def j_CW_isBehaviour (a0 : Int32) (a1 : Int32) (st : CwS) : Option (Int32 × CwS) :=
  bR (j_CW_isContract a0 st) fun r1 st2 =>
  if r1 = ((0 : Int32)) then
    some ((0 : Int32), st2)
  else
    if a1 < ((0 : Int32)) then
      some ((0 : Int32), st2)
    else
      if ((6 : Int32)) ≤ a1 then
        some ((0 : Int32), st2)
      else
        some ((1 : Int32), st2)
set_option maxHeartbeats 4000000 in
set_option maxRecDepth 100000 in
theorem c_CW_isBehaviour (l : Launch) (D : va_G) (A : Nat → Prop) (ad : Nat → Nat) (cA : Nat → ClassId) (tb0 tb1 : Nat) (a0 : Int32) (a1 : Int32) (st : CwS) (r : Int32) (st' : CwS) (h : j_CW_isBehaviour a0 a1 st = some (r, st')) : Met l yX7_isBehaviour (wv yX7_isBehaviour cX7_isBehaviour 2 (some .boolean)) ({ frames := 1, cells := 0, slots := 0, locals := 20 }) (va_Pc [.int a0, .int a1] (cwU D A ad cA tb0 tb1 st)) (cwQi D A ad cA tb0 tb1 r st') 0 0 A := by
  refine Met.ofW (cc := cX7_isBehaviour) (maxL := 2) (ret := some .boolean) (by decide) rfl ?_
  intro p e s m args below meth c s₁ B hml hv
  obtain ⟨rfl, hP, hK⟩ := hv
  have hx := B.exec
  have hb := B.bytes
  have hr := B.returns
  have hts := atoms_spec (ws := wv yX7_isBehaviour cX7_isBehaviour 2 (some .boolean)) B.pre
  have hown : s.vm.findClass RX7 = some m.cls := findClass_of_methodNamed B.named
  have hlocks := B.notSynchronized
  have hO : cwO D A ad cA s st s.heap [] := ⟨hP, va_S.rf⟩
  have hl := lv_entry ([.int a0, .int a1]) (n := 2) (Nat.le_of_ble_eq_true rfl)
  rw [lg_entry_eq]
  generalize (lg_sl ([.int a0, .int a1]) ++ List.replicate (2 - (lg_sl ([.int a0, .int a1])).length) Slot.unset).toArray = ls at hl ⊢
  have hl : lv_has ls 2 [(0, .int a0), (1, .int a1)] := hl
  have _h0 := hO
  have hgw := fun (w : Cond) (h : w ∈ gwW) => hts w (List.mem_cons_of_mem _ h)
  unfold j_CW_isBehaviour at h
  refine lv_iload_n hx hb dX7_isBehaviour_0 rfl (lv_at hl 0 rfl) ?_
  obtain ⟨r1, st2, h3, h⟩ := bR_some h
  refine cw_calli (va_runS (As := [.int a0]) (rest := []) ⟨hx, hb, hml, hown, hts⟩ (c_CW_isContract l D A ad cA tb0 tb1 a0 st r1 st2 h3) (va_cwS 1 hts (gw_S w_375a58ab w_6f490791 w_0fc29077 w_9bb5fda8) rfl rfl rfl (by decide +kernel) ⟨Nat.le_of_ble_eq_true rfl, Nat.le_of_ble_eq_true rfl⟩) (cw_preS hK hO) rfl rfl hl.1 rfl (lv_room (Nat.le_of_ble_eq_true rfl)) dX7_isBehaviour_1 ⟨Nat.zero_le _, Nat.zero_le _⟩) hO (fun H locs hO => ?_)
  refine lv_if_eq (tgt := 21) hx hb dX7_isBehaviour_4 (by decide) (fun c4 => ?_) (fun c4 => ?_)
  · have h := ite_t c4 h
    refine lv_iconst (v := 0) hx hb dX7_isBehaviour_21 (by decide) ?_
    obtain ⟨rfl, rfl⟩ := ret2 h; exact cw_zret hx hb hr hlocks hO rfl dX7_isBehaviour_22
  · have h := ite_f c4 h
    refine lv_iload_n hx hb dX7_isBehaviour_7 rfl (lv_at hl 1 rfl) ?_
    refine lv_if_lt (tgt := 21) hx hb dX7_isBehaviour_8 (by decide) (fun c5 => ?_) (fun c5 => ?_)
    · have h := ite_t c5 h
      refine lv_iconst (v := 0) hx hb dX7_isBehaviour_21 (by decide) ?_
      obtain ⟨rfl, rfl⟩ := ret2 h; exact cw_zret hx hb hr hlocks hO rfl dX7_isBehaviour_22
    · have h := ite_f c5 h
      refine lv_iload_n hx hb dX7_isBehaviour_11 rfl (lv_at hl 1 rfl) ?_
      refine lv_bipush (v := 6) hx hb dX7_isBehaviour_12 (by decide) ?_
      refine lv_icmp_ge (tgt := 21) hx hb dX7_isBehaviour_14 (by decide) (fun c6 => ?_) (fun c6 => ?_)
      · have h := ite_t c6 h
        refine lv_iconst (v := 0) hx hb dX7_isBehaviour_21 (by decide) ?_
        obtain ⟨rfl, rfl⟩ := ret2 h; exact cw_zret hx hb hr hlocks hO rfl dX7_isBehaviour_22
      · have h := ite_f c6 h
        refine lv_iconst (v := 1) hx hb dX7_isBehaviour_17 (by decide) ?_
        refine lv_goto (tgt := 22) hx hb dX7_isBehaviour_18 (by decide) ?_
        obtain ⟨rfl, rfl⟩ := ret2 h; exact cw_zret hx hb hr hlocks hO rfl dX7_isBehaviour_22
-- CW isLeaf
def j_CW_isLeaf (a0 : Int32) (st : CwS) : Option (Int32 × CwS) :=
  if a0 < ((0 : Int32)) then
    some ((0 : Int32), st)
  else
    if ((8 : Int32)) ≤ a0 then
      some ((0 : Int32), st)
    else
      some ((1 : Int32), st)
set_option maxHeartbeats 4000000 in
set_option maxRecDepth 100000 in
theorem c_CW_isLeaf (l : Launch) (D : va_G) (A : Nat → Prop) (ad : Nat → Nat) (cA : Nat → ClassId) (tb0 tb1 : Nat) (a0 : Int32) (st : CwS) (r : Int32) (st' : CwS) (h : j_CW_isLeaf a0 st = some (r, st')) : Met l yX7_isLeaf (wv yX7_isLeaf cX7_isLeaf 1 (some .boolean)) ({ frames := 0, cells := 0, slots := 0, locals := 0 }) (va_Pc [.int a0] (cwU D A ad cA tb0 tb1 st)) (cwQi D A ad cA tb0 tb1 r st') 0 0 A := by
  refine Met.ofW (cc := cX7_isLeaf) (maxL := 1) (ret := some .boolean) (by decide) rfl ?_
  intro p e s m args below meth c s₁ B hml hv
  obtain ⟨rfl, hP, hK⟩ := hv
  have hx := B.exec
  have hb := B.bytes
  have hr := B.returns
  have hts := atoms_spec (ws := wv yX7_isLeaf cX7_isLeaf 1 (some .boolean)) B.pre
  have hown : s.vm.findClass RX7 = some m.cls := findClass_of_methodNamed B.named
  have hlocks := B.notSynchronized
  have hO : cwO D A ad cA s st s.heap [] := ⟨hP, va_S.rf⟩
  have hl := lv_entry ([.int a0]) (n := 1) (Nat.le_of_ble_eq_true rfl)
  rw [lg_entry_eq]
  generalize (lg_sl ([.int a0]) ++ List.replicate (1 - (lg_sl ([.int a0])).length) Slot.unset).toArray = ls at hl ⊢
  have hl : lv_has ls 1 [(0, .int a0)] := hl
  have _h0 := hO
  have hgw := fun (w : Cond) (h : w ∈ gwW) => hts w (List.mem_cons_of_mem _ h)
  unfold j_CW_isLeaf at h
  refine lv_iload_n hx hb dX7_isLeaf_0 rfl (lv_at hl 0 rfl) ?_
  refine lv_if_lt (tgt := 14) hx hb dX7_isLeaf_1 (by decide) (fun c1 => ?_) (fun c1 => ?_)
  · have h := ite_t c1 h
    refine lv_iconst (v := 0) hx hb dX7_isLeaf_14 (by decide) ?_
    obtain ⟨rfl, rfl⟩ := ret2 h; exact cw_zret hx hb hr hlocks hO rfl dX7_isLeaf_15
  · have h := ite_f c1 h
    refine lv_iload_n hx hb dX7_isLeaf_4 rfl (lv_at hl 0 rfl) ?_
    refine lv_bipush (v := 8) hx hb dX7_isLeaf_5 (by decide) ?_
    refine lv_icmp_ge (tgt := 14) hx hb dX7_isLeaf_7 (by decide) (fun c2 => ?_) (fun c2 => ?_)
    · have h := ite_t c2 h
      refine lv_iconst (v := 0) hx hb dX7_isLeaf_14 (by decide) ?_
      obtain ⟨rfl, rfl⟩ := ret2 h; exact cw_zret hx hb hr hlocks hO rfl dX7_isLeaf_15
    · have h := ite_f c2 h
      refine lv_iconst (v := 1) hx hb dX7_isLeaf_10 (by decide) ?_
      refine lv_goto (tgt := 15) hx hb dX7_isLeaf_11 (by decide) ?_
      obtain ⟨rfl, rfl⟩ := ret2 h; exact cw_zret hx hb hr hlocks hO rfl dX7_isLeaf_15
-- CW sumFits
def j_CW_sumFits (a0 : Int64) (a2 : Int64) (st : CwS) : Option (Int32 × CwS) :=
  if (lg_cmp ((a0 ^^^ (a0 + a2)) &&& (a2 ^^^ (a0 + a2))) ((0 : Int64))) < ((0 : Int32)) then
    some ((0 : Int32), st)
  else
    some ((1 : Int32), st)
set_option maxHeartbeats 4000000 in
set_option maxRecDepth 100000 in
theorem c_CW_sumFits (l : Launch) (D : va_G) (A : Nat → Prop) (ad : Nat → Nat) (cA : Nat → ClassId) (tb0 tb1 : Nat) (a0 : Int64) (a2 : Int64) (st : CwS) (r : Int32) (st' : CwS) (h : j_CW_sumFits a0 a2 st = some (r, st')) : Met l yX7_sumFits (wv yX7_sumFits cX7_sumFits 6 (some .boolean)) ({ frames := 0, cells := 0, slots := 0, locals := 0 }) (va_Pc [.long a0, .long a2] (cwU D A ad cA tb0 tb1 st)) (cwQi D A ad cA tb0 tb1 r st') 0 0 A := by
  refine Met.ofW (cc := cX7_sumFits) (maxL := 6) (ret := some .boolean) (by decide) rfl ?_
  intro p e s m args below meth c s₁ B hml hv
  obtain ⟨rfl, hP, hK⟩ := hv
  have hx := B.exec
  have hb := B.bytes
  have hr := B.returns
  have hts := atoms_spec (ws := wv yX7_sumFits cX7_sumFits 6 (some .boolean)) B.pre
  have hown : s.vm.findClass RX7 = some m.cls := findClass_of_methodNamed B.named
  have hlocks := B.notSynchronized
  have hO : cwO D A ad cA s st s.heap [] := ⟨hP, va_S.rf⟩
  have hl := lv_entry ([.long a0, .long a2]) (n := 6) (Nat.le_of_ble_eq_true rfl)
  rw [lg_entry_eq]
  generalize (lg_sl ([.long a0, .long a2]) ++ List.replicate (6 - (lg_sl ([.long a0, .long a2])).length) Slot.unset).toArray = ls at hl ⊢
  have hl : lv_has ls 6 [(0, .long a0), (2, .long a2)] := hl
  have _h0 := hO
  have hgw := fun (w : Cond) (h : w ∈ gwW) => hts w (List.mem_cons_of_mem _ h)
  unfold j_CW_sumFits at h
  refine lv_lload_n hx hb dX7_sumFits_0 rfl (lv_at hl 0 rfl) ?_
  refine lv_lload_n hx hb dX7_sumFits_1 rfl (lv_at hl 1 rfl) ?_
  refine lv_ladd hx hb dX7_sumFits_2 ?_
  refine lv_lstore (lv' := [(4, .long (a0 + a2)), (0, .long a0), (2, .long a2)]) hx hb dX7_sumFits_3 hl (by decide) rfl (fun ls hl => ?_)
  refine lv_lload_n hx hb dX7_sumFits_5 rfl (lv_at hl 1 rfl) ?_
  refine lv_lload hx hb dX7_sumFits_6 (lv_at hl 0 rfl) ?_
  refine lv_lxor hx hb dX7_sumFits_8 ?_
  refine lv_lload_n hx hb dX7_sumFits_9 rfl (lv_at hl 2 rfl) ?_
  refine lv_lload hx hb dX7_sumFits_10 (lv_at hl 0 rfl) ?_
  refine lv_lxor hx hb dX7_sumFits_12 ?_
  refine lv_land hx hb dX7_sumFits_13 ?_
  refine lv_lconst (v := 0) hx hb dX7_sumFits_14 (by decide) ?_
  refine W.lcmp hx hb dX7_sumFits_15 ?_
  refine lv_if_lt (tgt := 23) hx hb dX7_sumFits_16 (by decide) (fun c1 => ?_) (fun c1 => ?_)
  · have h := ite_t c1 h
    refine lv_iconst (v := 0) hx hb dX7_sumFits_23 (by decide) ?_
    obtain ⟨rfl, rfl⟩ := ret2 h; exact cw_zret hx hb hr hlocks hO rfl dX7_sumFits_24
  · have h := ite_f c1 h
    refine lv_iconst (v := 1) hx hb dX7_sumFits_19 (by decide) ?_
    refine lv_goto (tgt := 24) hx hb dX7_sumFits_20 (by decide) ?_
    obtain ⟨rfl, rfl⟩ := ret2 h; exact cw_zret hx hb hr hlocks hO rfl dX7_sumFits_24
-- CW differenceFits
def j_CW_differenceFits (a0 : Int64) (a2 : Int64) (st : CwS) : Option (Int32 × CwS) :=
  if (lg_cmp ((a0 ^^^ a2) &&& (a0 ^^^ (a0 - a2))) ((0 : Int64))) < ((0 : Int32)) then
    some ((0 : Int32), st)
  else
    some ((1 : Int32), st)
set_option maxHeartbeats 4000000 in
set_option maxRecDepth 100000 in
theorem c_CW_differenceFits (l : Launch) (D : va_G) (A : Nat → Prop) (ad : Nat → Nat) (cA : Nat → ClassId) (tb0 tb1 : Nat) (a0 : Int64) (a2 : Int64) (st : CwS) (r : Int32) (st' : CwS) (h : j_CW_differenceFits a0 a2 st = some (r, st')) : Met l yX7_differenceFits (wv yX7_differenceFits cX7_differenceFits 6 (some .boolean)) ({ frames := 0, cells := 0, slots := 0, locals := 0 }) (va_Pc [.long a0, .long a2] (cwU D A ad cA tb0 tb1 st)) (cwQi D A ad cA tb0 tb1 r st') 0 0 A := by
  refine Met.ofW (cc := cX7_differenceFits) (maxL := 6) (ret := some .boolean) (by decide) rfl ?_
  intro p e s m args below meth c s₁ B hml hv
  obtain ⟨rfl, hP, hK⟩ := hv
  have hx := B.exec
  have hb := B.bytes
  have hr := B.returns
  have hts := atoms_spec (ws := wv yX7_differenceFits cX7_differenceFits 6 (some .boolean)) B.pre
  have hown : s.vm.findClass RX7 = some m.cls := findClass_of_methodNamed B.named
  have hlocks := B.notSynchronized
  have hO : cwO D A ad cA s st s.heap [] := ⟨hP, va_S.rf⟩
  have hl := lv_entry ([.long a0, .long a2]) (n := 6) (Nat.le_of_ble_eq_true rfl)
  rw [lg_entry_eq]
  generalize (lg_sl ([.long a0, .long a2]) ++ List.replicate (6 - (lg_sl ([.long a0, .long a2])).length) Slot.unset).toArray = ls at hl ⊢
  have hl : lv_has ls 6 [(0, .long a0), (2, .long a2)] := hl
  have _h0 := hO
  have hgw := fun (w : Cond) (h : w ∈ gwW) => hts w (List.mem_cons_of_mem _ h)
  unfold j_CW_differenceFits at h
  refine lv_lload_n hx hb dX7_differenceFits_0 rfl (lv_at hl 0 rfl) ?_
  refine lv_lload_n hx hb dX7_differenceFits_1 rfl (lv_at hl 1 rfl) ?_
  refine lv_lsub hx hb dX7_differenceFits_2 ?_
  refine lv_lstore (lv' := [(4, .long (a0 - a2)), (0, .long a0), (2, .long a2)]) hx hb dX7_differenceFits_3 hl (by decide) rfl (fun ls hl => ?_)
  refine lv_lload_n hx hb dX7_differenceFits_5 rfl (lv_at hl 1 rfl) ?_
  refine lv_lload_n hx hb dX7_differenceFits_6 rfl (lv_at hl 2 rfl) ?_
  refine lv_lxor hx hb dX7_differenceFits_7 ?_
  refine lv_lload_n hx hb dX7_differenceFits_8 rfl (lv_at hl 1 rfl) ?_
  refine lv_lload hx hb dX7_differenceFits_9 (lv_at hl 0 rfl) ?_
  refine lv_lxor hx hb dX7_differenceFits_11 ?_
  refine lv_land hx hb dX7_differenceFits_12 ?_
  refine lv_lconst (v := 0) hx hb dX7_differenceFits_13 (by decide) ?_
  refine W.lcmp hx hb dX7_differenceFits_14 ?_
  refine lv_if_lt (tgt := 22) hx hb dX7_differenceFits_15 (by decide) (fun c1 => ?_) (fun c1 => ?_)
  · have h := ite_t c1 h
    refine lv_iconst (v := 0) hx hb dX7_differenceFits_22 (by decide) ?_
    obtain ⟨rfl, rfl⟩ := ret2 h; exact cw_zret hx hb hr hlocks hO rfl dX7_differenceFits_23
  · have h := ite_f c1 h
    refine lv_iconst (v := 1) hx hb dX7_differenceFits_18 (by decide) ?_
    refine lv_goto (tgt := 23) hx hb dX7_differenceFits_19 (by decide) ?_
    obtain ⟨rfl, rfl⟩ := ret2 h; exact cw_zret hx hb hr hlocks hO rfl dX7_differenceFits_23
-- CW productFits
def j_CW_productFits (a0 : Int64) (a2 : Int64) (st : CwS) : Option (Int32 × CwS) :=
  if (lg_cmp a0 ((0 : Int64))) = ((0 : Int32)) then
    some ((1 : Int32), st)
  else
    if (lg_cmp a0 ((-1 : Int64))) = ((0 : Int32)) then
      if (lg_cmp a2 ((-9223372036854775808 : Int64))) = ((0 : Int32)) then
        some ((0 : Int32), st)
      else
        some ((1 : Int32), st)
    else
      ck (!(decide (a0 = 0))) <|
      if (lg_cmp ((a0 * a2) / a0) a2) = ((0 : Int32)) then
        some ((1 : Int32), st)
      else
        some ((0 : Int32), st)
set_option maxHeartbeats 4000000 in
set_option maxRecDepth 100000 in
theorem c_CW_productFits (l : Launch) (D : va_G) (A : Nat → Prop) (ad : Nat → Nat) (cA : Nat → ClassId) (tb0 tb1 : Nat) (a0 : Int64) (a2 : Int64) (st : CwS) (r : Int32) (st' : CwS) (h : j_CW_productFits a0 a2 st = some (r, st')) : Met l yX7_productFits (wv yX7_productFits cX7_productFits 4 (some .boolean)) ({ frames := 0, cells := 0, slots := 0, locals := 0 }) (va_Pc [.long a0, .long a2] (cwU D A ad cA tb0 tb1 st)) (cwQi D A ad cA tb0 tb1 r st') 0 0 A := by
  refine Met.ofW (cc := cX7_productFits) (maxL := 4) (ret := some .boolean) (by decide) rfl ?_
  intro p e s m args below meth c s₁ B hml hv
  obtain ⟨rfl, hP, hK⟩ := hv
  have hx := B.exec
  have hb := B.bytes
  have hr := B.returns
  have hts := atoms_spec (ws := wv yX7_productFits cX7_productFits 4 (some .boolean)) B.pre
  have hown : s.vm.findClass RX7 = some m.cls := findClass_of_methodNamed B.named
  have hlocks := B.notSynchronized
  have hO : cwO D A ad cA s st s.heap [] := ⟨hP, va_S.rf⟩
  have hl := lv_entry ([.long a0, .long a2]) (n := 4) (Nat.le_of_ble_eq_true rfl)
  rw [lg_entry_eq]
  generalize (lg_sl ([.long a0, .long a2]) ++ List.replicate (4 - (lg_sl ([.long a0, .long a2])).length) Slot.unset).toArray = ls at hl ⊢
  have hl : lv_has ls 4 [(0, .long a0), (2, .long a2)] := hl
  have _h0 := hO
  have hgw := fun (w : Cond) (h : w ∈ gwW) => hts w (List.mem_cons_of_mem _ h)
  have k98 := hgw _ w_b5052a64
  have k102 := hgw _ w_1cc8c3fa
  unfold j_CW_productFits at h
  refine lv_lload_n hx hb dX7_productFits_0 rfl (lv_at hl 0 rfl) ?_
  refine lv_lconst (v := 0) hx hb dX7_productFits_1 (by decide) ?_
  refine W.lcmp hx hb dX7_productFits_2 ?_
  refine lv_if_ne (tgt := 8) hx hb dX7_productFits_3 (by decide) (fun c1 => ?_) (fun c1 => ?_)
  · have h := ite_f c1 h
    refine lv_lload_n hx hb dX7_productFits_8 rfl (lv_at hl 0 rfl) ?_
    refine lv_ldc2 hx hb hown k98 dX7_productFits_9 ?_
    refine W.lcmp hx hb dX7_productFits_12 ?_
    refine lv_if_ne (tgt := 30) hx hb dX7_productFits_13 (by decide) (fun c2 => ?_) (fun c2 => ?_)
    · have h := ite_f c2 h
      refine lv_lload_n hx hb dX7_productFits_30 rfl (lv_at hl 0 rfl) ?_
      refine lv_lload_n hx hb dX7_productFits_31 rfl (lv_at hl 1 rfl) ?_
      refine lv_lmul hx hb dX7_productFits_32 ?_
      refine lv_lload_n hx hb dX7_productFits_33 rfl (lv_at hl 0 rfl) ?_
      obtain ⟨hc3, h⟩ := ck_some h
      refine lv_ldiv hx hb dX7_productFits_34 (ck_ne hc3) ?_
      refine lv_lload_n hx hb dX7_productFits_35 rfl (lv_at hl 1 rfl) ?_
      refine W.lcmp hx hb dX7_productFits_36 ?_
      refine lv_if_ne (tgt := 44) hx hb dX7_productFits_37 (by decide) (fun c4 => ?_) (fun c4 => ?_)
      · have h := ite_f c4 h
        refine lv_iconst (v := 0) hx hb dX7_productFits_44 (by decide) ?_
        obtain ⟨rfl, rfl⟩ := ret2 h; exact cw_zret hx hb hr hlocks hO rfl dX7_productFits_45
      · have h := ite_t c4 h
        refine lv_iconst (v := 1) hx hb dX7_productFits_40 (by decide) ?_
        refine lv_goto (tgt := 45) hx hb dX7_productFits_41 (by decide) ?_
        obtain ⟨rfl, rfl⟩ := ret2 h; exact cw_zret hx hb hr hlocks hO rfl dX7_productFits_45
    · have h := ite_t c2 h
      refine lv_lload_n hx hb dX7_productFits_16 rfl (lv_at hl 1 rfl) ?_
      refine lv_ldc2 hx hb hown k102 dX7_productFits_17 ?_
      refine W.lcmp hx hb dX7_productFits_20 ?_
      refine lv_if_eq (tgt := 28) hx hb dX7_productFits_21 (by decide) (fun c5 => ?_) (fun c5 => ?_)
      · have h := ite_t c5 h
        refine lv_iconst (v := 0) hx hb dX7_productFits_28 (by decide) ?_
        obtain ⟨rfl, rfl⟩ := ret2 h; exact cw_zret hx hb hr hlocks hO rfl dX7_productFits_29
      · have h := ite_f c5 h
        refine lv_iconst (v := 1) hx hb dX7_productFits_24 (by decide) ?_
        refine lv_goto (tgt := 29) hx hb dX7_productFits_25 (by decide) ?_
        obtain ⟨rfl, rfl⟩ := ret2 h; exact cw_zret hx hb hr hlocks hO rfl dX7_productFits_29
  · have h := ite_t c1 h
    refine lv_iconst (v := 1) hx hb dX7_productFits_6 (by decide) ?_
    obtain ⟨rfl, rfl⟩ := ret2 h; exact cw_zret hx hb hr hlocks hO rfl dX7_productFits_7
