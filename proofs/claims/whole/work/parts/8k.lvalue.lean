-- the law's value(): the throw is caught
set_option maxRecDepth 100000 in
theorem w_Lvalue : Cond.codeWith yL_value cL_value 4 (some .int) [(0, 8, 11, 13)] ∈ lw_tbl := by decide +kernel
abbrev outW (cA : Nat → ClassId) (o : Nat) (fo : Nat → Int64) : va_W := [(o, .inl (cA 1, 1, .inr (.inl fo)))]
def lvU (D : va_G) (A : Nat → Prop) (ad : Nat → Nat) (cA : Nat → ClassId) (tb0 tb1 sa o : Nat) (st : CwS) (fo : Nat → Int64) (U : State) : Prop := cwU D A ad cA tb0 tb1 st U ∧ vEx A sa U ∧ va_P D vwCl (outW cA o fo) U.heap ∧ ¬ A o
noncomputable abbrev lvW : List Cond := .codeWith yL_value cL_value 4 (some .int) [(0, 8, 11, 13)] :: gwW
set_option maxHeartbeats 4000000 in
set_option maxRecDepth 100000 in
theorem c_L_value (l : Launch) (hlt : l.stackTraces = false) (D : va_G) (A : Nat → Prop) (ad : Nat → Nat) (cA : Nat → ClassId) (tb0 tb1 sa o : Nat) (a1 : Int32) (st : CwS) (fo : Nat → Int64) (ok : Int32) (he : j_Ledger_hasEvent a1 st = some (ok, st)) (hk : ok = 0 ∨ ix a1 40 = true) : vx_Met l yL_value lvW ({ frames := 7, cells := 1, slots := 6, locals := 130 }) (va_Pc [.ref (ad 0), .int a1, .ref o] (lvU D A ad cA tb0 tb1 sa o st fo)) (va_Qi (fun (r : Int32) (fo2 : Nat → Int64) => (ok = 0 ∧ r = 1 ∧ fo2 = fo) ∨ (ok ≠ 0 ∧ r = 0 ∧ fo2 0 = gL st 2 0 a1.toNatClampNeg)) (fun fo2 t => va_P D vwCl (wd ad 269 (cwc ad cA st)) t.heap ∧ va_P D vwCl (outW cA o fo2) t.heap) (fun q => A q ∨ q = o)) (vx_X (fun _ : Unit => False) (fun _ _ _ => True) (fun _ => False)) 1 6 (fun q => A q ∨ q = o) := by
  refine vx_ofWH (cc := cL_value) (maxL := 4) (ret := some .int) (hh := [(0, 8, 11, 13)]) (by decide) rfl ?_
  intro p e s m args below meth c s₁ B hml hv
  obtain ⟨rfl, hU, hE, hPo, hAo⟩ := hv
  obtain ⟨hP, hK⟩ := hU
  have hx := B.exec
  have hb := B.bytes
  have hr := B.returns
  have hts := atoms_spec (ws := lvW) B.pre
  have hown : s.vm.findClass RL = some m.cls := findClass_of_methodNamed B.named
  have hlocks := B.notSynchronized
  have htab := vx_table (x := yL_value) B (hts _ List.mem_cons_self)
  have hO : cwO D A ad cA s st s.heap [] := ⟨hP, va_S.rf⟩
  have hl := lv_entry ([.ref (ad 0), .int a1, .ref o]) (n := 4) (Nat.le_of_ble_eq_true rfl)
  rw [lg_entry_eq]
  generalize (lg_sl ([.ref (ad 0), .int a1, .ref o]) ++ List.replicate (4 - (lg_sl ([.ref (ad 0), .int a1, .ref o])).length) Slot.unset).toArray = ls at hl ⊢
  have hl : lv_has ls 4 [(0, .ref (ad 0)), (1, .int a1), (2, .ref o)] := hl
  have hgw := fun (w : Cond) (h : w ∈ gwW) => hts w (List.mem_cons_of_mem _ h)
  have hpre : PreV s s.heap RX7 (ad 0) (va_Pc (.ref (ad 0) :: [.int a1]) (fun U => cwU D A ad cA tb0 tb1 st U ∧ vEx A sa U)) [.int a1] := by
    refine ⟨fun a U g mk q => ⟨q.1, (cwU_blind (av := [.ref (ad 0), .int a1]) a U g mk ⟨q.1, q.2.1⟩).2, q.2.2.calling g mk a⟩, (cw_preV (k := 0) (ci := 7) (As := [.int a1]) hK hO rfl (by decide) cc_CW).2.1, fun U hU hW => ⟨rfl, ⟨by rw [hU]; exact hO.1, hK.at hO.2 hU hW⟩, hE.at hO.2 hU hW⟩⟩
  refine lv_aload_n hx hb dL_value_0 rfl (lv_at hl 2 rfl) ?_
  refine lv_iconst (v := 0) hx hb dL_value_1 (by decide) ?_
  refine lv_aload_n hx hb dL_value_2 rfl (lv_at hl 0 rfl) ?_
  refine lv_iload_n hx hb dL_value_3 rfl (lv_at hl 1 rfl) ?_
  refine vx_calll (A0 := fun q => A q ∨ q = o) (H0 := s.heap) (vx_runV (As := [.int a1]) (rest := [.int 0, .ref o]) ⟨hx, hb, hml, hown, hts⟩ (c_CW_value l hlt D A ad cA tb0 tb1 sa a1 st ok he hk) (cwV 1 hts (gw_V w_5a268236 w_06f9d1c2 w_10e6e461 w_0fc29077 w_4f4aad50) rfl rfl rfl (by decide +kernel) ⟨Nat.le_of_ble_eq_true rfl, Nat.le_of_ble_eq_true rfl⟩) hpre rfl rfl hl.1 rfl (lv_room (Nat.le_of_ble_eq_true rfl)) dL_value_4 ⟨Nat.le_of_ble_eq_true rfl, Nat.le_of_ble_eq_true rfl⟩) va_S.rf (fun q _ h => Or.inl h) (fun q h => Or.inl h) (fun q _ h => Or.inl h) ?_ ?_
  · intro E ce q9 u t H1 locs1 ht hal hok hBX hsz hkeep hS hce hcv hcl
    obtain ⟨rfl, hPw⟩ := hBX
    have hPo1 : va_P D vwCl (outW cA o fo) H1 := hPo.kept fun k x hx9 => by
      have hlt9 := (hPo k x hx9).lt
      have hz : k < 1 := (List.getElem?_eq_some_iff.mp hx9).1
      rw [show k = 0 by omega] at hx9
      cases hx9
      exact hkeep o hlt9 hAo
    refine vx_catch (own := RL) (name := vxC) (E := vxC) hown [] ⟨0, 8, 11, 13⟩ [] (by rw [htab]; rfl) (fun z hz => nomatch hz) (by decide) (by decide) (hgw _ w_ce5536f4) (va_any rfl (hE.2.2.2 (.castable vxC vxC) (by decide +kernel))) hce hcv hcl ?_
    refine vx_ret ?_
    refine lv_astore_n (lv' := [(3, .ref q9), (0, .ref (ad 0)), (1, .int a1), (2, .ref o)]) hx hb dL_value_11 rfl hl (by decide) rfl (fun ls hl => ?_)
    refine lv_iconst (v := 1) hx hb dL_value_12 (by decide) ?_
    refine W.iret hx hb hr (fun t2 ht2 hW => ⟨⟨1, fo, rfl, Or.inl ⟨hok, rfl, rfl⟩, by rw [ht2, ← ht]; exact hPw, by rw [ht2]; exact hPo1⟩, hS.F ht2⟩) hS.2.2 dL_value_13 hlocks
  · intro r u t H1 locs1 ht hal hpo hBu hsz hkeep hS
    obtain ⟨hne, rfl⟩ := hpo
    have hPo1 : va_P D vwCl (outW cA o fo) H1 := hPo.kept fun k x hx9 => by
      have hlt9 := (hPo k x hx9).lt
      have hz : k < 1 := (List.getElem?_eq_some_iff.mp hx9).1
      rw [show k = 0 by omega] at hx9
      cases hx9
      exact hkeep o hlt9 hAo
    have hlen : (wd ad 269 (cwc ad cA st)).length = 269 := by unfold wd; rw [List.length_map, List.length_range]
    have hPj : va_P D vwCl (wd ad 269 (cwc ad cA st) ++ outW cA o fo) H1 := va_P.app (by rw [← ht]; exact hBu) hPo1
    have hDj : va_D (fun q => A q ∨ q = o) (wd ad 269 (cwc ad cA st) ++ outW cA o fo) := by
      have hd := hK.2.1.D (cwc ad cA st)
      have sp : ∀ (k : Nat) (x : Nat × va_E), (wd ad 269 (cwc ad cA st) ++ outW cA o fo)[k]? = some x → (k < 269 ∧ (wd ad 269 (cwc ad cA st))[k]? = some x) ∨ (k = 269 ∧ x.1 = o) := by
        intro k x hx9
        by_cases h1 : k < 269
        · rw [List.getElem?_append_left (by rw [hlen]; exact h1)] at hx9
          exact Or.inl ⟨h1, hx9⟩
        · rw [List.getElem?_append_right (by rw [hlen]; omega), hlen] at hx9
          have hz : k - 269 < 1 := (List.getElem?_eq_some_iff.mp hx9).1
          rw [show k - 269 = 0 by omega] at hx9
          cases hx9
          exact Or.inr ⟨by omega, rfl⟩
      refine ⟨fun i j x y hi hj hxy => ?_, fun k x hx9 => ?_⟩
      · rcases sp i x hi with ⟨i1, i2⟩ | ⟨i1, i2⟩ <;> rcases sp j y hj with ⟨j1, j2⟩ | ⟨j1, j2⟩
        · exact hd.1 i j x y i2 j2 hxy
        · exact absurd (by rw [← j2, ← hxy]; exact hd.2 i x i2) hAo
        · exact absurd (by rw [← i2, hxy]; exact hd.2 j y j2) hAo
        · omega
      · rcases sp k x hx9 with ⟨i1, i2⟩ | ⟨i1, i2⟩
        · exact Or.inl (hd.2 k x i2)
        · exact Or.inr i2
    have hat : (wd ad 269 (cwc ad cA st) ++ outW cA o fo)[269]? = some (o, .inl (cA 1, 1, .inr (.inl fo))) := by
      rw [List.getElem?_append_right (by rw [hlen]; omega), hlen]
      rfl
    refine va_last (tys := cwTy cA) (A := fun q => A q ∨ q = o) (H0 := s.heap) hx hb hK.1 hPj hDj hS 269 1 hat rfl (ix_in (by decide)) dL_value_7 (fun H2 locs2 hP2 _ hS2 => ?_)
    have es : ∀ y : Nat × va_E, (wd ad 269 (cwc ad cA st) ++ outW cA o fo).set 269 y = wd ad 269 (cwc ad cA st) ++ [y] := by
      intro y
      rw [List.set_append_right _ _ (by rw [hlen]; omega), hlen]
      rfl
    rw [es] at hP2
    refine vx_ret ?_
    refine lv_goto (tgt := 14) hx hb dL_value_8 (by decide) ?_
    refine lv_iconst (v := 0) hx hb dL_value_14 (by decide) ?_
    refine W.iret hx hb hr (fun t2 ht2 hW => ⟨⟨0, vp_updL fo ((0 : Int32)).toNatClampNeg (gL st 2 0 a1.toNatClampNeg), rfl, Or.inr ⟨hne, rfl, rfl⟩, ?_, ?_⟩, hS2.F ht2⟩) hS2.2.2 dL_value_15 hlocks
    · rw [ht2]
      intro k x hx9
      exact hP2 k x (by rw [List.getElem?_append_left (List.getElem?_eq_some_iff.mp hx9).1]; exact hx9)
    · rw [ht2]
      intro k x hx9
      have hz : k < 1 := (List.getElem?_eq_some_iff.mp hx9).1
      rw [show k = 0 by omega] at hx9
      cases hx9
      exact hP2 269 _ (by rw [List.getElem?_append_right (by rw [hlen]; omega), hlen]; rfl)
