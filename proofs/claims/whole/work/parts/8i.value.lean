set_option maxRecDepth 100000 in
theorem w_9a711a05 : Cond.fieldLink RX7 95 "CallWalker$Ledger" "eventNumbers" "[J" ∈ gwW := gw_at 109 rfl rfl
set_option maxRecDepth 100000 in
theorem w_96656961 : Cond.classLink RX7 88 "java/lang/IndexOutOfBoundsException" ∈ gwW := gw_at 564 rfl rfl
set_option maxRecDepth 100000 in
theorem w_920cdb2c : Cond.initialized "java/lang/IndexOutOfBoundsException" ∈ gwW := gw_at 44 rfl rfl
set_option maxRecDepth 100000 in
theorem w_5a268236 : Cond.methodLink RL 7 yX7_value ∈ gwW := gw_at 560 rfl rfl
set_option maxRecDepth 100000 in
theorem w_06f9d1c2 : Cond.instanceMethod yX7_value ∈ gwW := gw_at 561 rfl rfl
set_option maxRecDepth 100000 in
theorem w_10e6e461 : Cond.selects RX7 yX7_value yX7_value ∈ gwW := gw_at 562 rfl rfl
set_option maxRecDepth 100000 in
theorem w_4f4aad50 : Cond.code yX7_value cX7_value 2 (some .long) ∈ gwW := gw_at 563 rfl rfl
set_option maxRecDepth 100000 in
theorem w_ce5536f4 : Cond.classLink RL 13 "java/lang/IndexOutOfBoundsException" ∈ gwW := gw_at 559 rfl rfl
-- value(): an event's number, or its throw
def vxC : String := "java/lang/IndexOutOfBoundsException"
def vxN : List String := ["java/lang/RuntimeException", "java/lang/Exception"]
def vxB : List Cond := [.declares (Bundle.initS "java/lang/RuntimeException"), .declares (Bundle.initS "java/lang/Exception"), .declares (Bundle.initS Bundle.tN), .castable vxC vxC]
/-- what a throw asks of the state -/
def vEx (A : Nat → Prop) (sa : Nat) (U : State) : Prop := vx_Zq Bundle.tN "UNASSIGNED_STACK" Bundle.steD A U U.heap ∧ vx_Zq Bundle.tN "SUPPRESSED_SENTINEL" Bundle.listD A U U.heap ∧ vk_R RX7 90 "no such event" sa U ∧ ∀ w ∈ vxB, w.before #[] U = true
theorem vxB_moved {u U : State} (hvm : u.vm.Alike U.vm) (h : ∀ w ∈ vxB, w.before #[] u = true) : ∀ w ∈ vxB, w.before #[] U = true := by
  have tr : ∀ {c : Cond}, c.onTables = true → c.before #[] (u.setVm U.vm) = true → c.before #[] U = true := by
    intro c hc h
    have e := Cond.onTables_vm (A := #[]) (A' := #[]) (U := u) (U' := U) U.vm c hc
    have hU : U.setVm U.vm = U := rfl
    rw [hU] at e
    rw [← e]
    exact h
  intro w hw
  have h0 := h w hw
  simp only [vxB, List.mem_cons, List.not_mem_nil, or_false] at hw
  rcases hw with rfl | rfl | rfl | rfl
  · exact tr rfl (by rw [Cond.declares_setVm hvm]; exact h0)
  · exact tr rfl (by rw [Cond.declares_setVm hvm]; exact h0)
  · exact tr rfl (by rw [Cond.declares_setVm hvm]; exact h0)
  · exact tr rfl (by rw [Cond.castable_setVm hvm]; exact h0)
theorem vEx.at {A : Nat → Prop} {sa : Nat} {s U : State} {H : Heap} {locs : List Loc} (h : vEx A sa s) (hS : va_S A s.heap H locs) (hU : U.heap = H) (hW : s.WarmedH U.vm) : vEx A sa U := by
  obtain ⟨h1, h2, h3, h4⟩ := h
  refine ⟨?_, ?_, vk_R.warm hW h3, vxB_moved hW.alike h4⟩
  · rw [hU]; exact (h1.kept hS.2.1).moved hW.alike
  · rw [hU]; exact (h2.kept hS.2.1).moved hW.alike
theorem vEx.calling {A : Nat → Prop} {sa : Nat} {U : State} (h : vEx A sa U) (g : JFrame) (mk : MethodId) (a : Array Value) : vEx A sa (U.calling g mk a) := by
  obtain ⟨h1, h2, h3, h4⟩ := h
  exact ⟨h1.moved (U := U.calling g mk a) (Vm.Alike.refl U.vm), h2.moved (U := U.calling g mk a) (Vm.Alike.refl U.vm), vk_R.same (u := U) rfl h3, vxB_moved (u := U) (Vm.Alike.refl U.vm) h4⟩
theorem vx_inT : ∀ w ∈ (vx_atS RX7 92 vxC vxN).filter goodWord, w ∈ lw_tbl := by decide +kernel
theorem vx_inB : ∀ w ∈ (vx_atS RX7 92 vxC vxN).filter (fun w => !goodWord w), w ∈ vxB := by decide +kernel
theorem vx_gd : ∀ w ∈ Cond.classLink RX7 88 vxC :: Cond.initialized vxC :: vx_atS RX7 92 vxC vxN, vx_ot w = true := by decide +kernel
/-- value() throws: the world is as it was -/
abbrev vxX (D : va_G) (A : Nat → Prop) (ad : Nat → Nat) (cA : Nat → ClassId) (st : CwS) (ok : Int32) : String → State → State → Prop := vx_X (fun _ : Unit => ok = 0) (fun E _ t => E = vxC ∧ va_P D vwCl (wd ad 269 (cwc ad cA st)) t.heap) A
set_option maxHeartbeats 4000000 in
set_option maxRecDepth 100000 in
theorem c_CW_value (l : Launch) (hlt : l.stackTraces = false) (D : va_G) (A : Nat → Prop) (ad : Nat → Nat) (cA : Nat → ClassId) (tb0 tb1 sa : Nat) (a1 : Int32) (st : CwS) (ok : Int32) (he : j_Ledger_hasEvent a1 st = some (ok, st)) (hk : ok = 0 ∨ ix a1 40 = true) : vx_Met l yX7_value (wv yX7_value cX7_value 2 (some .long)) ({ frames := 6, cells := 1, slots := 6, locals := 90 }) (va_Pc [.ref (ad 0), .int a1] (fun U => cwU D A ad cA tb0 tb1 st U ∧ vEx A sa U)) (va_Ql (fun (x : Int64) (_ : Unit) => ok ≠ 0 ∧ x = gL st 2 0 a1.toNatClampNeg) (fun _ t => va_P D vwCl (wd ad 269 (cwc ad cA st)) t.heap) A) (vxX D A ad cA st ok) 1 6 A := by
  refine vx_ofW (cc := cX7_value) (maxL := 2) (ret := some .long) (by decide) rfl ?_
  intro p e s m args below meth c s₁ B hml htab hv
  obtain ⟨rfl, ⟨hP, hK⟩, hE⟩ := hv
  have hx := B.exec
  have hb := B.bytes
  have hr := B.returns
  have hts := atoms_spec (ws := wv yX7_value cX7_value 2 (some .long)) B.pre
  have hown : s.vm.findClass RX7 = some m.cls := findClass_of_methodNamed B.named
  have hlocks := B.notSynchronized
  have hO : cwO D A ad cA s st s.heap [] := ⟨hP, va_S.rf⟩
  have hl := lv_entry ([.ref (ad 0), .int a1]) (n := 2) (Nat.le_of_ble_eq_true rfl)
  rw [lg_entry_eq]
  generalize (lg_sl ([.ref (ad 0), .int a1]) ++ List.replicate (2 - (lg_sl ([.ref (ad 0), .int a1])).length) Slot.unset).toArray = ls at hl ⊢
  have hl : lv_has ls 2 [(0, .ref (ad 0)), (1, .int a1)] := hl
  have hgw := fun (w : Cond) (h : w ∈ gwW) => hts w (List.mem_cons_of_mem _ h)
  refine lv_aload_n hx hb dX7_value_0 rfl (lv_at hl 0 rfl) ?_
  refine gf_CW_ledger hx hb hgw iwCW hown hK hO (hgw _ w_3dcf37e4) dX7_value_1 ?_
  refine lv_iload_n hx hb dX7_value_4 rfl (lv_at hl 1 rfl) ?_
  refine cw_calli (va_runV (As := [.int a1]) (rest := []) ⟨hx, hb, hml, hown, hts⟩ (c_Ledger_hasEvent l D A ad cA tb0 tb1 a1 st ok st he) (cwV 1 hts (gw_V w_3c59aded w_21ef8127 w_03a0fe8a w_7f12e8e2 w_e4366073) rfl rfl rfl (by decide +kernel) ⟨Nat.le_of_ble_eq_true rfl, Nat.le_of_ble_eq_true rfl⟩) (cw_preV (k := 148) (ci := 3) hK hO rfl (by decide) (cc_Ledger)) rfl rfl hl.1 rfl (lv_room (Nat.le_of_ble_eq_true rfl)) dX7_value_5 ⟨Nat.zero_le _, Nat.zero_le _⟩) hO (fun H locs hO => ?_)
  refine lv_if_ne (tgt := 21) hx hb dX7_value_8 (by decide) (fun c4 => ?_) (fun c4 => ?_)
  · refine vx_ret ?_
    refine lv_aload_n hx hb dX7_value_21 rfl (lv_at hl 0 rfl) ?_
    refine gf_CW_ledger hx hb hgw iwCW hown hK hO (hgw _ w_3dcf37e4) dX7_value_22 ?_
    refine gf_Ledger_eventNumbers hx hb hgw iwLedger hown hK hO (hgw _ w_9a711a05) dX7_value_25 ?_
    refine lv_iload_n hx hb dX7_value_28 rfl (lv_at hl 1 rfl) ?_
    refine al_EvN hx hb hK hO (hk.resolve_left c4) dX7_value_29 ?_
    refine W.widen (k := 1) (n := 6) (by omega) (by omega) ?_
    exact W.lret hx hb hr (fun t ht hW => ⟨⟨_, (), rfl, ⟨c4, rfl⟩, by subst ht; exact hO.1⟩, hO.2.F ht⟩) hO.2.2.2 dX7_value_30 hlocks
  · refine vx_throwS (text := "no such event") (names := vxN) (cls := vxC) (sa := sa) (A := A) hx hb hlt hown (by decide +kernel) (by decide +kernel) (hgw _ w_96656961) (hgw _ w_920cdb2c) hE.2.2.1 ?_ vx_gd hE.1 hE.2.1 hO.2 (by rw [hml]; exact hl.1) dX7_value_11 dX7_value_14 dX7_value_15 dX7_value_17 dX7_value_20 (fun x hx9 => (htab x hx9).elim) (by decide) (by decide) (Nat.le_refl _) (Nat.le_refl _) hlocks ?_ hO.2.2.2 (Nat.le_refl _) (Nat.le_refl _)
    · exact vx_hat (fun w hw => hgw w (gw_mem (vx_inT w hw) (List.mem_filter.mp hw).2)) vx_inB (fun w hw => va_any (by rcases List.mem_cons.mp hw with rfl | hw; rfl; rcases List.mem_cons.mp hw with rfl | hw; rfl; rcases List.mem_cons.mp hw with rfl | hw; rfl; rcases List.mem_cons.mp hw with rfl | hw; rfl; cases hw) (hE.2.2.2 w hw))
    · intro t hal hsz hq
      refine ⟨(), c4, ⟨rfl, hO.1.kept fun k x hx9 => hq x.1 (hO.1 k x hx9).lt⟩, Nat.le_trans hO.2.1 hsz, fun q h1 h2 => ?_⟩
      rw [hq q (Nat.lt_of_lt_of_le h1 hO.2.1)]
      exact hO.2.2.1 q h1 h2
