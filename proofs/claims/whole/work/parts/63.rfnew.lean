set_option maxRecDepth 100000 in
theorem w_526f78b3 : Cond.methodLink RX9 183 yX8_begin ∈ gwW := gw_at 802 rfl rfl
set_option maxRecDepth 100000 in
theorem w_6d703cd2 : Cond.instanceMethod yX8_begin ∈ gwW := gw_at 803 rfl rfl
set_option maxRecDepth 100000 in
theorem w_eeaa6a9a : Cond.selects RX8 yX8_begin yX8_begin ∈ gwW := gw_at 804 rfl rfl
set_option maxRecDepth 100000 in
theorem w_2dc1a974 : Cond.code yX8_begin cX8_begin 5 none ∈ gwW := gw_at 805 rfl rfl
set_option maxRecDepth 100000 in
theorem w_64d249f4 : Cond.instantiable RX8 15 ∈ gwW := gw_at 735 rfl rfl
set_option maxRecDepth 100000 in
theorem w_d5896909 : Cond.code yX8_init cX8_init 1 none ∈ gwW := gw_at 738 rfl rfl
set_option maxRecDepth 100000 in
theorem w_a0ab241f : Cond.instanceMethod yX8_init ∈ gwW := gw_at 737 rfl rfl
theorem al_MFrs {p : Program} {l : Launch} {e : Env} {R : Room} {s : State} {m : MethodId} {args : Array Value} {below : List Frame} {meth : Method} {c : Code} {H : Heap} {locs : List Loc} {cells slots : Nat} {Q : State → Prop} {cc : ByteArray} {pc : Nat} {ls : Array Slot} {rest : List Value} {D : va_G} {A : Nat → Prop} {b0 : Nat} {cA : Nat → ClassId} {st : CwS} (hx : p.tables.exec = Jvm.exec) (hb : c.code = cc) (hK : rfK D cA s) (hO : rfO D A b0 cA s st H locs) {x : Int32} (hin : ix x 11 = true) (hdg : decode cc pc = .ok (.aaload, 1)) (kk : W p l e R s m args below meth c H locs cells slots Q (F0 m (pc + 1) ls (va_rf (if x.toNatClampNeg < gR st 101 0 then some (gR st 102 x.toNatClampNeg) else none) :: rest))) : W p l e R s m args below meth c H locs cells slots Q (F0 m pc ls (.int x :: .ref (b0 + 10) :: rest)) :=
  va_aldq hx hb hK.1 (va_P.one (hO.1.1 10 (by decide))) 0 6 rfl rfl (ix_in hin) hdg kk
def j_Mo_frame (a1 a2 a3 a4 : Int32) (st0 : CwS) : Option (Nat × CwS) :=
  ck (ix (gI st0 13 0 0) 11) <|
  if (gI st0 13 0 0).toNatClampNeg < gR st0 101 0 then
    bV (j_MF_begin ((gI st0 13 0 0).toNatClampNeg) a1 a2 a3 a4 st0) fun st2 => some ((gI st0 13 0 0).toNatClampNeg, st2)
  else
    ck (decide ((gI st0 13 0 0).toNatClampNeg = gR st0 101 0)) <|
    bS (fNew st0) fun st1 =>
    bV (j_MF_begin ((gI st0 13 0 0).toNatClampNeg) a1 a2 a3 a4 st1) fun st2 => some ((gI st0 13 0 0).toNatClampNeg, st2)
theorem x_Mo_frame {a1 a2 a3 a4 : Int32} {st0 : CwS} {r : Nat} {st' : CwS} (h : j_Mo_frame a1 a2 a3 a4 st0 = some (r, st')) : Ext st0 st' := by
  unfold j_Mo_frame at h
  obtain ⟨-, h⟩ := ck_some h
  by_cases c : (gI st0 13 0 0).toNatClampNeg < gR st0 101 0
  · have h := ite_t c h
    obtain ⟨st2, h1, h⟩ := bV_some h
    obtain ⟨-, rfl⟩ := ret2 h
    exact x_MF_begin h1
  · have h := ite_f c h
    obtain ⟨-, h⟩ := ck_some h
    obtain ⟨st1, e1, h⟩ := bS_some h
    obtain ⟨st2, h1, h⟩ := bV_some h
    obtain ⟨-, rfl⟩ := ret2 h
    exact Ext.trans (by rw [e1]; exact Ext.fnew st0) (x_MF_begin h1)
set_option maxHeartbeats 4000000 in
set_option maxRecDepth 100000 in
theorem c_Mo_frame_28 {l : Launch} {D : va_G} {A : Nat → Prop} {b0 : Nat} {cA : Nat → ClassId} {p : Program} {e : Env} {s : State} {m : MethodId} {args : Array Value} {below : List Frame} {meth : Method} {c : Code} {R : Room} (S : CallFix p m c cX9_frame 5 s args (wv yX9_frame cX9_frame 5 (some (.object "CallWalkerModel$Frame"))) RX9) (hr : meth.sig.returnType = some (.object "CallWalkerModel$Frame")) (hlocks : meth.locks = false) (hK : rfK D cA s) (hR : 1 ≤ R.frames ∧ 80 ≤ R.locals) (a1 a2 a3 a4 : Int32) (st1 st2 : CwS) (hj : (gI st1 13 0 0).toNatClampNeg < gR st1 101 0) (hix : ix (gI st1 13 0 0) 11 = true) (h1 : j_MF_begin ((gI st1 13 0 0).toNatClampNeg) a1 a2 a3 a4 st1 = some st2) (H : Heap) (locs : List Loc) (ls : Array Slot) (cells slots : Nat) (hc : cells ≤ R.cells) (hs : slots ≤ R.slots) (hO : rfO D A b0 cA s st1 H locs) (hl : lv_has ls 5 [(0, .ref b0), (1, .int a1), (2, .int a2), (3, .int a3), (4, .int a4)]) : W p l e R s m args below meth c H locs cells slots (MQ below (rfQr D A b0 cA ((gI st1 13 0 0).toNatClampNeg) st2) args s cells slots A) (F0 m 28 ls []) := by
  obtain ⟨hx, hb, hml, hown, hts⟩ := S
  have hgw := fun (w : Cond) (h : w ∈ gwW) => hts w (List.mem_cons_of_mem _ h)
  refine lv_aload_n hx hb dX9_frame_28 rfl (lv_at hl 0 rfl) ?_
  refine gf_Mo_frames hx hb hgw iwMo hown hK hO (hgw _ w_23dc5b2c) dX9_frame_29 ?_
  refine lv_aload_n hx hb dX9_frame_32 rfl (lv_at hl 0 rfl) ?_
  refine gf_Mo_calls hx hb hgw iwMo hown hK hO (hgw _ w_f30ac9b6) dX9_frame_33 ?_
  refine al_MFrs hx hb hK hO hix dX9_frame_36 ?_
  rw [if_pos hj]
  obtain ⟨fa, hfa⟩ : ∃ x, gR st1 102 ((gI st1 13 0 0).toNatClampNeg) = x := ⟨_, rfl⟩
  rw [hfa]
  have hf : rfF st1 ((gI st1 13 0 0).toNatClampNeg) fa := ⟨hj, hfa⟩
  refine W.eq (g2 := F0 m 37 ls [.ref fa]) rfl ?_
  refine lv_iload_n hx hb dX9_frame_37 rfl (lv_at hl 1 rfl) ?_
  refine lv_iload_n hx hb dX9_frame_38 rfl (lv_at hl 2 rfl) ?_
  refine lv_iload_n hx hb dX9_frame_39 rfl (lv_at hl 3 rfl) ?_
  refine lv_iload hx hb dX9_frame_40 (lv_at hl 4 rfl) ?_
  refine rf_callv (va_runV (As := [.int a1, .int a2, .int a3, .int a4]) (rest := []) ⟨hx, hb, hml, hown, hts⟩ (c_MF_begin l D A b0 cA st1 _ fa hf a1 a2 a3 a4 st2 h1) (cwV 4 hts (gw_V w_526f78b3 w_6d703cd2 w_eeaa6a9a w_18ea82d2 w_2dc1a974) rfl rfl rfl (by decide +kernel) ⟨by have := hR.1; dsimp only; omega, by have := hR.2; dsimp only; omega⟩) (rf_preF hf hK hO) rfl rfl hl.1 rfl (lv_room (Nat.le_of_ble_eq_true rfl)) dX9_frame_42 ⟨hc, hs⟩) hO (fun H locs hO => ?_)
  unfold j_MF_begin at h1
  cases h1
  refine lv_aload_n hx hb dX9_frame_45 rfl (lv_at hl 0 rfl) ?_
  refine gf_Mo_frames hx hb hgw iwMo hown hK hO (hgw _ w_23dc5b2c) dX9_frame_46 ?_
  refine lv_aload_n hx hb dX9_frame_49 rfl (lv_at hl 0 rfl) ?_
  refine gf_Mo_calls hx hb hgw iwMo hown hK hO (hgw _ w_f30ac9b6) dX9_frame_50 ?_
  refine W.eq (g2 := F0 m 53 ls [.int (gI st1 13 0 0), .ref (b0 + 10)]) rfl ?_
  refine al_MFrs hx hb hK hO hix dX9_frame_53 ?_
  refine W.eq (g2 := F0 m 54 ls [va_rf (if (gI st1 13 0 0).toNatClampNeg < gR st1 101 0 then some (gR st1 102 ((gI st1 13 0 0).toNatClampNeg)) else none)]) rfl ?_
  rw [if_pos hj]
  exact rf_aret hx hb hr ⟨_, rfl⟩ hlocks hO dX9_frame_54
set_option maxHeartbeats 4000000 in
set_option maxRecDepth 100000 in
theorem c_Mo_frame (l : Launch) (D : va_G) (A : Nat → Prop) (b0 : Nat) (cA : Nat → ClassId) (st0 : CwS) (a1 : Int32) (a2 : Int32) (a3 : Int32) (a4 : Int32) (r : Nat) (st' : CwS) (h : j_Mo_frame a1 a2 a3 a4 st0 = some (r, st')) : Met l yX9_frame (wv yX9_frame cX9_frame 5 (some (.object "CallWalkerModel$Frame"))) ({ frames := 3, cells := gR st' 101 2 - gR st0 101 2, slots := gR st' 101 3 - gR st0 101 3, locals := 80 }) (va_Pc [.ref b0, .int a1, .int a2, .int a3, .int a4] (rfU D A b0 cA st0)) (rfQr D A b0 cA r st') (gR st' 101 2 - gR st0 101 2) (gR st' 101 3 - gR st0 101 3) A := by
  refine Met.ofW (cc := cX9_frame) (maxL := 5) (ret := some (.object "CallWalkerModel$Frame")) (by decide) rfl ?_
  intro p e s m args below meth c s₁ B hml hv
  obtain ⟨rfl, hP, hD, hz, hK⟩ := hv
  have hx := B.exec
  have hb := B.bytes
  have hr := B.returns
  have hts := atoms_spec (ws := wv yX9_frame cX9_frame 5 (some (.object "CallWalkerModel$Frame"))) B.pre
  have hown : s.vm.findClass RX9 = some m.cls := findClass_of_methodNamed B.named
  have hlocks := B.notSynchronized
  have hO : rfO D A b0 cA s st0 s.heap [] := ⟨hP, hD, va_S.rf, hz⟩
  have hl := lv_entry ([.ref b0, .int a1, .int a2, .int a3, .int a4]) (n := 5) (Nat.le_of_ble_eq_true rfl)
  rw [lg_entry_eq]
  generalize (lg_sl ([.ref b0, .int a1, .int a2, .int a3, .int a4]) ++ List.replicate (5 - (lg_sl ([.ref b0, .int a1, .int a2, .int a3, .int a4])).length) Slot.unset).toArray = ls at hl ⊢
  have hl : lv_has ls 5 [(0, .ref b0), (1, .int a1), (2, .int a2), (3, .int a3), (4, .int a4)] := hl
  have hgw := fun (w : Cond) (h : w ∈ gwW) => hts w (List.mem_cons_of_mem _ h)
  have hx0 := x_Mo_frame h
  unfold j_Mo_frame at h
  obtain ⟨hix, h⟩ := ck_some h
  refine lv_aload_n hx hb dX9_frame_0 rfl (lv_at hl 0 rfl) ?_
  refine gf_Mo_frames hx hb hgw iwMo hown hK hO (hgw _ w_23dc5b2c) dX9_frame_1 ?_
  refine lv_aload_n hx hb dX9_frame_4 rfl (lv_at hl 0 rfl) ?_
  refine gf_Mo_calls hx hb hgw iwMo hown hK hO (hgw _ w_f30ac9b6) dX9_frame_5 ?_
  refine al_MFrs hx hb hK hO hix dX9_frame_8 ?_
  by_cases cj : (gI st0 13 0 0).toNatClampNeg < gR st0 101 0
  · have h := ite_t cj h
    obtain ⟨st2, h1, h⟩ := bV_some h
    obtain ⟨rfl, rfl⟩ := ret2 h
    rw [if_pos cj]
    refine lv_ifnonnull (tgt := 28) hx hb dX9_frame_9 (by decide) ?_
    refine W.widen (k := gR st2 101 2 - gR st0 101 2) (n := gR st2 101 3 - gR st0 101 3) (Nat.zero_le _) (Nat.zero_le _) ?_
    exact c_Mo_frame_28 ⟨hx, hb, hml, hown, hts⟩ hr hlocks hK ⟨by show 1 ≤ 3; decide, by show 80 ≤ 80; decide⟩ a1 a2 a3 a4 st0 st2 cj hix h1 _ _ ls _ _ (Nat.le_refl _) (Nat.le_refl _) hO hl
  · have h := ite_f cj h
    obtain ⟨ck1, h⟩ := ck_some h
    have hJ : (gI st0 13 0 0).toNatClampNeg = gR st0 101 0 := of_decide_eq_true ck1
    obtain ⟨st1, e1, h⟩ := bS_some h
    obtain ⟨st2, h1, h⟩ := bV_some h
    obtain ⟨rfl, rfl⟩ := ret2 h
    have y2 : Ext st1 st2 := x_MF_begin h1
    rw [if_neg cj]
    refine lv_ifnonnullN hx hb dX9_frame_9 ?_
    have hge2 : gR st0 101 2 + 8 ≤ gR st2 101 2 := by have := y2.1; rw [e1] at this; exact this
    have hge3 : gR st0 101 3 + 134 ≤ gR st2 101 3 := by have := y2.2.1; rw [e1] at this; exact this
    refine lv_aload_n hx hb dX9_frame_12 rfl (lv_at hl 0 rfl) ?_
    refine gf_Mo_frames hx hb hgw iwMo hown hK hO (hgw _ w_23dc5b2c) dX9_frame_13 ?_
    refine lv_aload_n hx hb dX9_frame_16 rfl (lv_at hl 0 rfl) ?_
    refine gf_Mo_calls hx hb hgw iwMo hown hK hO (hgw _ w_f30ac9b6) dX9_frame_17 ?_
    have hO0 : cxO D (gR st0 101 2) 0 (fun _ => .inr (0, [])) s s.heap [] := ⟨fun k q hk => by simp [wd] at hk, va_S.rf, hz⟩
    refine cx_new (ci := 8) (fs := [.int 0, .int 0, .int 0, .int 0, .null, .null, .null, .null, .null, .int 0, .null, .null, .int 0, .int 0, .long 0]) (C := RX8) (T := TX8) (N := 15) hx hb hgw iwMF tyX8 tyX8_ok hown (hgw _ w_0045b4ad) (hgw _ w_64d249f4) (hgw _ w_18ea82d2) hK.1 hO0 rfl (fun j hj => by rcases (show j = 0 ∨ j = 1 ∨ j = 2 ∨ j = 3 ∨ j = 4 ∨ j = 5 ∨ j = 6 ∨ j = 7 ∨ j = 8 ∨ j = 9 ∨ j = 10 ∨ j = 11 ∨ j = 12 ∨ j = 13 ∨ j = 14 by omega) with rfl | rfl | rfl | rfl | rfl | rfl | rfl | rfl | rfl | rfl | rfl | rfl | rfl | rfl | rfl <;> rfl) (by show 0 + 1 ≤ gR st2 101 2 - gR st0 101 2; omega) (by show 0 + 15 ≤ gR st2 101 3 - gR st0 101 3; omega) dX9_frame_20 (fun H hO1 => ?_)
    refine lv_dup hx hb dX9_frame_23 rfl ?_
    refine cx_callv (va_runIN (As := []) (rest := [.ref (gR st0 101 2 + 0), .int (gI st0 13 0 0), .ref (b0 + 10)]) ⟨hx, hb, hml, hown, hts⟩ (cx_MF_init l D cA (gR st0 101 2) 1 0 (by omega) _ (va_up_self _ _ _)) ⟨va_cnB 0 hts (gw_N w_d5896909) rfl rfl rfl hK.2.2.2.2.2.1 (hgw _ w_18ea82d2) (by decide +kernel) ⟨by show 1 + 1 ≤ 3; decide, by show 8 + (1 + 11) + 12 ≤ 80; decide⟩, rfl, hgw _ w_a0ab241f⟩ (cx_preS hK.1 hK.2.2 hO1) rfl rfl hl.1 rfl (lv_room (Nat.le_of_ble_eq_true rfl)) dX9_frame_24 ⟨by show 0 + 1 + 7 ≤ gR st2 101 2 - gR st0 101 2; omega, by show 0 + 15 + 119 ≤ gR st2 101 3 - gR st0 101 3; omega⟩) hO1 (fun g2 H2 locs2 hF hO2 => ?_)
    obtain ⟨f0, f1, f2, f3, f4, f5, f6, f7, -⟩ := hF
    -- the store into the row of frames
    have hsz : s.heap.size = gR st0 101 2 := hz
    have hold : ∀ q : Nat, q < s.heap.size → H2[q]? = s.heap[q]? := fun q hq => hO2.2.1.2.1 q hq (by show ¬ gR st0 101 2 ≤ q; omega)
    have hb10 : b0 + 10 < s.heap.size := (hP.1 10 (by decide)).lt
    have hcell : H2[b0 + 10]? = some (vp_cell (cA 6) (11, .inr (.inr (.inr (.inr (fun j => if j < gR st0 101 0 then some (gR st0 102 j) else none)))))) := (hold _ hb10).trans (hP.1 10 (by decide))
    have hnew : ∀ j, j < 8 → va_at D vwCl (gR st0 101 2 + j, g2 j) H2 := fun j hj => hO2.1 j _ (wd_get hj rfl)
    obtain ⟨r', hr', cellV, g1, g2', g3, -⟩ := (f0 ▸ hnew 0 (by decide) : va_at D vwCl (gR st0 101 2 + 0, .inr (8, _)) H2)
    obtain ⟨kA, comp, k1, k2, k3, -⟩ := (hK.1.2 6 _ rfl).2
    have hcls := (hK.1.1 8 _ rfl).2
    have hcomp : comp = D.1 8 := Option.some.inj (k3.symm.trans hcls.1)
    subst hcomp
    obtain ⟨kC, hkC, -⟩ := hcls.2
    refine W.aast hx hb hcell (fun q h => by cases h) (fun h => by cases h) k1 k2 rfl hkC ⟨fun q => (ix_in hix) (Or.inl q), by show _ < (arrV _ _ _).slots.size; rw [arrV_size]; exact ix_lt hix⟩ g1 (fun q h => by rw [g3] at h; cases h) (by rw [g2']; exact hkC) (by rw [g2']; exact va_assign hcls) rfl rfl dX9_frame_27 fun H3 e3 z3 oq3 => ?_
    have hO3 : rfO D A b0 cA s st1 H3 (locs2 ++ [⟨b0 + 10, (gI st0 13 0 0).toNatClampNeg⟩]) := by
      rw [e1]
      have kp : ∀ j, j < 8 → va_at D vwCl (gR st0 101 2 + j, g2 j) H3 := fun j hj => (hnew j hj).kept (oq3 (gR st0 101 2 + j) (fun h => by have h : gR st0 101 2 + j = b0 + 10 := h; omega))
      have zI : ∀ c, 14 ≤ c → c ≤ 23 → gI (fNew st0) c (gR st0 101 0) = fun _ => 0 := fun c h1 h2 => by funext q; rw [gI_fNew, if_pos ⟨h1, h2, rfl⟩]
      have zL' : ∀ c, 4 ≤ c → c ≤ 7 → gL (fNew st0) c (gR st0 101 0) = fun _ => 0 := fun c h1 h2 => by funext q; rw [gL_fNew, if_pos ⟨h1, h2, rfl⟩]
      refine rf_fnew hP hD hz (fun j hj => ?_) ?_ (fun q hq hne => (oq3 q hne).trans (hold q hq)) (by rw [z3, hO2.2.2]) ?_
      · have := kp j hj
        match j, hj, this with
        | 0, _, this => rw [f0] at this; simpa [rfB, zI, zL'] using this
        | 1, _, this => rw [f1] at this; simpa [rfB, zI, zL'] using this
        | 2, _, this => rw [f2] at this; simpa [rfB, zI, zL'] using this
        | 3, _, this => rw [f3] at this; simpa [rfB, zI, zL'] using this
        | 4, _, this => rw [f4] at this; simpa [rfB, zI, zL'] using this
        | 5, _, this =>
          rw [f5] at this
          have e : (fun p => if p < 13 then rqo (gR (fNew st0) 50 (16 * gR st0 101 0 + p)) else none) = fun _ => none := by
            funext p
            by_cases hp : p < 13
            · rw [if_pos hp, gR_fNew50, if_pos (by omega)]; rfl
            · rw [if_neg hp]
          simpa [rfB, e] using this
        | 6, _, this => rw [f6] at this; simpa [rfB, zI, zL'] using this
        | 7, _, this => rw [f7] at this; simpa [rfB, zI, zL'] using this
        | j + 8, hj, _ => omega
      · show H3[b0 + 10]? = some (vp_cell (cA 6) (11, .inr (.inr (.inr (.inr (fun j => if j < gR (fNew st0) 101 0 then some (gR (fNew st0) 102 j) else none))))))
        have e3 : H3[b0 + 10]? = some ((vp_cell (cA 6) (11, .inr (.inr (.inr (.inr (fun j => if j < gR st0 101 0 then some (gR st0 102 j) else none)))))).setSlot (gI st0 13 0 0).toNatClampNeg (.ref (gR st0 101 2 + 0))) := e3
        rw [e3, vp_cell_q, vp_cell_q, arrV_store]
        congr 2
        funext q
        by_cases hq : q = (gI st0 13 0 0).toNatClampNeg
        · subst hq
          rw [hJ]
          simp [updV, gR_fNew102, show gR (fNew st0) 101 0 = gR st0 101 0 + 1 from rfl, va_rf]
        · have hq2 : q ≠ gR st0 101 0 := by rw [← hJ]; exact hq
          by_cases hq3 : q < gR st0 101 0
          · have hq4 : q < gR (fNew st0) 101 0 := by show q < gR st0 101 0 + 1; omega
            simp [updV, hq, hq3, hq4, gR_fNew102, hq2]
          · have hq4 : ¬ q < gR (fNew st0) 101 0 := by show ¬ q < gR st0 101 0 + 1; omega
            simp [updV, hq, hq3, hq4]
      · refine ⟨by rw [z3]; exact hO2.2.1.1, fun q h1 h2 => ?_, fun q hq => ?_⟩
        · rw [oq3 q (fun h => h2 (by rw [h]; exact hD.2.2.2.2.1 10 (by decide)))]
          exact hold q h1
        · rcases List.mem_append.mp hq with h | h
          · exact hD.2.2.2.2.2.2.2 _ (hO2.2.1.2.2 q h)
          · rw [List.mem_singleton.mp h]
            exact hD.2.2.2.2.1 10 (by decide)
    have hj1 : (gI st1 13 0 0).toNatClampNeg < gR st1 101 0 := by rw [e1]; show (gI st0 13 0 0).toNatClampNeg < gR st0 101 0 + 1; omega
    have hi1 : ix (gI st1 13 0 0) 11 = true := by rw [e1]; exact hix
    have hg1 : gI st1 13 0 0 = gI st0 13 0 0 := by rw [e1]; rfl
    have h1' : j_MF_begin ((gI st1 13 0 0).toNatClampNeg) a1 a2 a3 a4 st1 = some st2 := by rw [hg1]; exact h1
    refine W.widen (k := gR st2 101 2 - gR st0 101 2) (n := gR st2 101 3 - gR st0 101 3) (by omega) (by omega) ?_
    have key := c_Mo_frame_28 (l := l) (e := e) (below := below) (args := #[.ref b0, .int a1, .int a2, .int a3, .int a4]) (R := { frames := 3, cells := gR st2 101 2 - gR st0 101 2, slots := gR st2 101 3 - gR st0 101 3, locals := 80 }) ⟨hx, hb, hml, hown, hts⟩ hr hlocks hK ⟨by show 1 ≤ 3; decide, by show 80 ≤ 80; decide⟩ a1 a2 a3 a4 st1 st2 hj1 hi1 h1' H3 _ ls _ _ (Nat.le_refl _) (Nat.le_refl _) hO3 hl
    rw [hg1] at key
    exact key
