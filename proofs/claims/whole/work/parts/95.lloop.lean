-- the law's loop
theorem lw_more {L k : Nat} (hL : L ≤ 3072) (hk : 6 * k ≤ L) (h : ¬ nI L - 6 < nI (6 * k)) : 6 * k + 6 ≤ L := by
  by_cases h6 : 6 ≤ L
  · have e : nI L - 6 = nI (L - 6) := nI_sub (x := L) (y := 6) h6
    rw [e] at h
    have h2 : ¬ L - 6 < 6 * k := fun z => h (nI_lt (a := L - 6) (b := 6 * k) z (by omega))
    omega
  · exfalso
    apply h
    rw [Int32.lt_iff_toInt_lt, nI_toInt (n := 6 * k) (by omega)]
    have e : (nI L - 6).toInt < 0 := by
      rcases (show L = 0 ∨ L = 1 ∨ L = 2 ∨ L = 3 ∨ L = 4 ∨ L = 5 by omega) with rfl | rfl | rfl | rfl | rfl | rfl <;> decide
    omega
def R_law : String := "CallWalkerLaw"
def lw_P (b : Addr) (xs : List Int32) (args : Array Value) (s : State) : Prop := args = #[.ref b] ∧ s.IntsAt b xs ∧ xs.length ≤ 3072 ∧ (Jvm.Cond.and given_1 narrow_1).before args s = true
def lw_Q (_ : Array Value) (s : State) (o : Outcome) (t : State) : Prop := o = .returned (some (.int 1)) ∧ Framed s o t [] 601024 7293034
def lw_Z (below : List Frame) (a : Array Value) (s : State) : State → Prop := fun t => ∃ o, t.status = .running ∧ Ended t below o ∧ lw_Q a s o t
/-- the law's own end, with 1 on the stack, nothing written that was there before, its room as the claim has it -/
theorem lw_ret {p : Program} {l : Launch} {e : Env} {s : State} {m : MethodId} {below : List Frame} {meth : Method} {c : Code} {b : Nat} (hx : p.tables.exec = Jvm.exec) (hb : c.code = code) (hr : meth.sig.returnType = ret) (hlocks : meth.locks = false) {pc : Nat} {H : Heap} {ls : Array Slot} (hdg : decode code pc = .ok (.ireturn, 1)) : W p l e room_1 s m #[Value.ref b] below meth c H [] 601024 7293034 (lw_Z below #[Value.ref b] s) (F0 m pc ls [.int 1]) := by
  intro T hT X
  obtain ⟨fs, hret, hrun, hended, hW, hframe⟩ := X.leave (v := some (.int 1)) (hlocks := hlocks) (fun h => by rw [hr] at h; cases h)
  have hmeth' : T.vm.method? m = some meth := X.method'
  refine ⟨T.setFrames fs, ?_, .returned (some (.int 1)), hrun, hended, rfl, ⟨_, rfl⟩, hW, hframe⟩
  jvm_step X.here [X.here.top, hx, hb, hdg, hmeth', hr, ret, narrow_b1]
  (try refine ⟨rfl, ?_⟩); (try refine ⟨rfl, ?_⟩)
  first | (intro acts; rw [hret _ acts rfl rfl rfl]) | rw [hret _ _ rfl rfl rfl]
  exact Steps.refl _
/-- what holds at the law's entry: the machine, the code, the tables' words (any of lw_tbl by 'hts w (by decide +kernel)'), the script of L ints xs at the cell b, what the Statement gives of the start (any of its parts by flat_of_before) -/
def lw_At (p : Program) (s : State) (m : MethodId) (meth : Method) (c : Code) (b L : Nat) (xs : Nat → Int32) : Prop :=
  p.tables.exec = Jvm.exec ∧ c.code = code ∧ meth.sig.returnType = ret ∧ c.maxLocals = 8 ∧ s.vm.findClass R_law = some m.cls ∧ (∀ w ∈ lw_tbl, w.before #[Value.ref b] s = true) ∧ va_X b L xs s s.heap ∧ b < s.heap.size ∧ meth.locks = false ∧ (Jvm.Cond.and given_1 narrow_1).before #[Value.ref b] s = true
set_option maxHeartbeats 4000000 in
set_option maxRecDepth 100000 in
theorem law_loop {p : Program} {l : Launch} {e : Env} {s : State} {m : MethodId} {below : List Frame} {meth : Method} {c : Code} {bs L : Nat} {xs : Nat → Int32} {D : va_G} {cA : Nat → ClassId} {tb0 tb1 sa : Nat} (hlt : l.stackTraces = false) (S : CallFix p m c cL_law 8 s #[Value.ref bs] lvW RL) (hr : meth.sig.returnType = ret) (hlocks : meth.locks = false) (hX : va_X bs L xs s s.heap) (hbl : bs < s.heap.size) (hbA : ¬ lwA s.heap.size bs) (hL : L ≤ 3072) (hK : LK D s.heap.size cA tb0 tb1 sa s) (hx : p.tables.exec = Jvm.exec) (hb : c.code = cL_law) : ∀ (n k : Nat), L ≤ 6 * k + n → ∀ (a b : CwS) (fo : Nat → Int64) (H : Heap) (locs : List Loc) (ls : Array Slot) (cells slots : Nat), Rel0 a b → LO D s.heap.size cA s.heap a b fo H locs → lv_has ls 8 (lwL bs s.heap.size k) → 6 * k ≤ L → cells ≤ 281 + 600 * k + 8 * gR b 101 0 → slots ≤ 8522 + 9600 * k + 134 * gR b 101 0 → W p l e room_1 s m #[Value.ref bs] below meth c H locs cells slots (lw_Z below #[Value.ref bs] s) (F0 m 23 ls []) := by
  intro n
  induction n with
  | zero =>
    intro k hn a b fo H locs ls cells slots r hO hl hkL hc hs
    have f10 : gR b 101 0 ≤ 10 := r.2.2.2.2.2
    refine lv_iload hx hb dL_law_23 (lv_at hl 4 rfl) ?_
    refine lv_aload_n hx hb dL_law_25 rfl (lv_at hl 0 rfl) ?_
    refine va_slen hx hb hX hbl hbA hO.S dL_law_26 ?_
    refine lv_bipush (v := 6) hx hb dL_law_27 (by decide) ?_
    refine lv_isub hx hb dL_law_29 ?_
    refine lv_icmp_gt (tgt := 631) hx hb dL_law_30 (by decide) (fun h => ?_) (fun h => ?_)
    · refine lv_iconst (v := 1) hx hb dL_law_631 (by decide) ?_
      refine va_forget (fun q hq => hO.S.2.2 q hq) ?_
      refine W.widen (k := 601024) (n := 7293034) (by omega) (by omega) ?_
      exact lw_ret hx hb hr hlocks dL_law_632
    · have h6 := lw_more hL hkL h
      omega
  | succ n ih =>
    intro k hn a b fo H locs ls cells slots r hO hl hkL hc hs
    have f10 : gR b 101 0 ≤ 10 := r.2.2.2.2.2
    refine lv_iload hx hb dL_law_23 (lv_at hl 4 rfl) ?_
    refine lv_aload_n hx hb dL_law_25 rfl (lv_at hl 0 rfl) ?_
    refine va_slen hx hb hX hbl hbA hO.S dL_law_26 ?_
    refine lv_bipush (v := 6) hx hb dL_law_27 (by decide) ?_
    refine lv_isub hx hb dL_law_29 ?_
    refine lv_icmp_gt (tgt := 631) hx hb dL_law_30 (by decide) (fun h => ?_) (fun h => ?_)
    · refine lv_iconst (v := 1) hx hb dL_law_631 (by decide) ?_
      refine va_forget (fun q hq => hO.S.2.2 q hq) ?_
      refine W.widen (k := 601024) (n := 7293034) (by omega) (by omega) ?_
      exact lw_ret hx hb hr hlocks dL_law_632
    · have h6 : 6 * k + 6 ≤ L := lw_more hL hkL h
      have hXk : lwX bs L xs s.heap.size k s := ⟨hX, hbl, hbA, hL, h6⟩
      have kk : LNext p l e s m #[Value.ref bs] below meth c D s.heap.size cA bs k (lw_Z below #[Value.ref bs] s) := by
        intro a b fo H locs ls cells slots r hO hl hc hs
        refine lv_iinc (k := 4) (v := nI (6 * (k + 1))) (lv' := [(4, .int (nI (6 * (k + 1)))), (0, .ref bs), (1, .ref (s.heap.size + 0)), (2, .ref (s.heap.size + 269)), (3, .ref (s.heap.size + 280))]) hx hb dL_law_625 hl rfl (nI_add (6 * k) 6) (by decide) rfl (fun ls hl => ?_)
        refine lv_goto (tgt := 23) hx hb dL_law_628 (by decide) ?_
        exact ih (k + 1) (by omega) a b fo H locs ls cells slots r hO (lv_sub hl [1, 2, 3, 4, 0] rfl) (by omega) hc hs
      refine lv_aload_n hx hb dL_law_33 rfl (lv_at hl 0 rfl) ?_
      refine lv_iload hx hb dL_law_34 (lv_at hl 4 rfl) ?_
      refine va_sld hx hb hX hbl hbA hO.S (nI_in (N := L) (by omega) (by omega)) dL_law_36 ?_
      refine lv_bipush (v := 15) hx hb dL_law_37 (by decide) ?_
      refine lv_iand hx hb dL_law_39 ?_
      refine lv_topi (fun y ey => ?_)
      by_cases c0 : y = 0
      · refine lv_tableIn (tgt := 104) hx hb dL_law_40 (by rw [c0]; decide) (by rw [c0]; decide) (by rw [c0]; rfl) (by decide) ?_
        exact law_0 S hXk hK r hO hl hc hs kk
      by_cases c1 : y = 1
      · refine lv_tableIn (tgt := 165) hx hb dL_law_40 (by rw [c1]; decide) (by rw [c1]; decide) (by rw [c1]; rfl) (by decide) ?_
        exact law_1 S hXk hK r hO hl hc hs kk
      by_cases c2 : y = 2
      · refine lv_tableIn (tgt := 202) hx hb dL_law_40 (by rw [c2]; decide) (by rw [c2]; decide) (by rw [c2]; rfl) (by decide) ?_
        exact law_2 S hXk hK r hO hl hc hs kk
      by_cases c3 : y = 3
      · refine lv_tableIn (tgt := 255) hx hb dL_law_40 (by rw [c3]; decide) (by rw [c3]; decide) (by rw [c3]; rfl) (by decide) ?_
        exact law_3 S hXk hK r hO hl hc hs kk
      by_cases c4 : y = 4
      · refine lv_tableIn (tgt := 324) hx hb dL_law_40 (by rw [c4]; decide) (by rw [c4]; decide) (by rw [c4]; rfl) (by decide) ?_
        exact law_4 S hXk hK r hO hl hc hs kk
      by_cases c5 : y = 5
      · refine lv_tableIn (tgt := 417) hx hb dL_law_40 (by rw [c5]; decide) (by rw [c5]; decide) (by rw [c5]; rfl) (by decide) ?_
        exact law_5 S hXk hK r hO hl hc hs kk
      by_cases c6 : y = 6
      · refine lv_tableIn (tgt := 431) hx hb dL_law_40 (by rw [c6]; decide) (by rw [c6]; decide) (by rw [c6]; rfl) (by decide) ?_
        exact law_6 S hXk hK r hO hl hc hs kk
      by_cases c7 : y = 7
      · refine lv_tableIn (tgt := 456) hx hb dL_law_40 (by rw [c7]; decide) (by rw [c7]; decide) (by rw [c7]; rfl) (by decide) ?_
        exact law_7 S hXk hK r hO hl hc hs kk
      by_cases c8 : y = 8
      · refine lv_tableIn (tgt := 494) hx hb dL_law_40 (by rw [c8]; decide) (by rw [c8]; decide) (by rw [c8]; rfl) (by decide) ?_
        exact law_8 S hXk hK r hO hl hc hs kk
      by_cases c9 : y = 9
      · refine lv_tableIn (tgt := 520) hx hb dL_law_40 (by rw [c9]; decide) (by rw [c9]; decide) (by rw [c9]; rfl) (by decide) ?_
        exact law_9 S hXk hK r hO hl hc hs kk
      by_cases c10 : y = 10
      · refine lv_tableIn (tgt := 533) hx hb dL_law_40 (by rw [c10]; decide) (by rw [c10]; decide) (by rw [c10]; rfl) (by decide) ?_
        exact law_10 S hXk hK r hO hl hc hs kk
      by_cases c11 : y = 11
      · refine lv_tableIn (tgt := 570) hx hb dL_law_40 (by rw [c11]; decide) (by rw [c11]; decide) (by rw [c11]; rfl) (by decide) ?_
        exact law_11 hlt S hXk hK r hO hl hc hs kk
      have hout : y.toInt < 0 ∨ 11 < y.toInt := by
        by_cases n0 : y < 0
        · exact Or.inl (Int32.lt_iff_toInt_lt.mp n0)
        · obtain ⟨j, hj, rfl⟩ := nI_of n0
          by_cases h11 : 11 < j
          · right; rw [nI_toInt hj]; omega
          · exfalso
            rcases (show j = 0 ∨ j = 1 ∨ j = 2 ∨ j = 3 ∨ j = 4 ∨ j = 5 ∨ j = 6 ∨ j = 7 ∨ j = 8 ∨ j = 9 ∨ j = 10 ∨ j = 11 by omega) with rfl | rfl | rfl | rfl | rfl | rfl | rfl | rfl | rfl | rfl | rfl | rfl
            · exact c0 rfl
            · exact c1 rfl
            · exact c2 rfl
            · exact c3 rfl
            · exact c4 rfl
            · exact c5 rfl
            · exact c6 rfl
            · exact c7 rfl
            · exact c8 rfl
            · exact c9 rfl
            · exact c10 rfl
            · exact c11 rfl
      refine lv_tableOut (tgt := 625) hx hb dL_law_40 hout (by decide) ?_
      exact kk a b fo H locs ls cells slots r hO hl (by omega) (by omega)
