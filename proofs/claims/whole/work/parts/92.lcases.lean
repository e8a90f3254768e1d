-- the law's own rows: a script's int, a long of two, a truth value, the comparison of two answers
abbrev lwL (bs B k : Nat) : List (Nat × Value) := [(0, .ref bs), (1, .ref (B + 0)), (2, .ref (B + 269)), (3, .ref (B + 280)), (4, .int (nI (6 * k)))]
/-- the script, and where the law stands in it -/
def lwX (bs L : Nat) (xs : Nat → Int32) (B k : Nat) (s : State) : Prop := va_X bs L xs s s.heap ∧ bs < s.heap.size ∧ ¬ lwA B bs ∧ L ≤ 3072 ∧ 6 * k + 6 ≤ L
def lwJ (x y : Int32) : Int64 := (x.toInt64 <<< ((32 : Int32).toInt64 &&& 63)) ||| (y.toInt64 &&& 4294967295)
def lwZ (x : Int32) : Int32 := if x = 0 then 0 else 1
section LAW4
variable {p : Program} {l : Launch} {e : Env} {R : Room} {s : State} {m : MethodId} {args : Array Value} {below : List Frame} {meth : Method} {c : Code} {H : Heap} {locs : List Loc} {cells slots : Nat} {Q : State → Prop}
variable {pc : Nat} {ls : Array Slot} {rest : List Value} {bs L B k : Nat} {xs : Nat → Int32}
theorem lw_ld (S : CallFix p m c cL_law 8 s args lvW RL) (hX : lwX bs L xs B k s) (hS : va_S (lwA B) s.heap H locs) (h0 : ls[0]? = some (.val (.ref bs))) (h4 : ls[4]? = some (.val (.int (nI (6 * k))))) (j : Nat) (hj : j < 6) {n : Int} (hn : Int32.ofInt n = nI j) (d0 : decode cL_law pc = .ok (.aload_n 0, 1)) (d1 : decode cL_law (pc + 1) = .ok (.iload 4, 2)) (d2 : decode cL_law (pc + 3) = .ok (.iconst n, 1)) (d3 : decode cL_law (pc + 4) = .ok (.iadd, 1)) (d4 : decode cL_law (pc + 5) = .ok (.iaload, 1)) (kk : W p l e R s m args below meth c H locs cells slots Q (F0 m (pc + 6) ls (.int (xs (6 * k + j)) :: rest))) : W p l e R s m args below meth c H locs cells slots Q (F0 m pc ls rest) := by
  obtain ⟨hx, hb, -, -, -⟩ := S
  obtain ⟨x1, x2, x3, x4, x5⟩ := hX
  refine lv_aload_n hx hb d0 rfl h0 ?_
  refine lv_iload hx hb d1 h4 ?_
  refine lv_iconst (v := nI j) hx hb d2 hn ?_
  refine lv_iadd hx hb d3 ?_
  rw [nI_add]
  refine va_sld hx hb x1 x2 x3 hS (nI_in (N := L) (by omega) (by omega)) d4 ?_
  rw [nI_clamp (by omega)]
  exact kk
theorem lw_jl (S : CallFix p m c cL_law 8 s args lvW RL) (hw : (Cond.constantLong RL 34 4294967295).before args s = true) (hX : lwX bs L xs B k s) (hS : va_S (lwA B) s.heap H locs) (h0 : ls[0]? = some (.val (.ref bs))) (h4 : ls[4]? = some (.val (.int (nI (6 * k))))) (u v : Nat) (hu : u < 6) (hv : v < 6) {n1 n2 : Int} (hn1 : Int32.ofInt n1 = nI u) (hn2 : Int32.ofInt n2 = nI v)
    (d0 : decode cL_law pc = .ok (.aload_n 0, 1)) (d1 : decode cL_law (pc + 1) = .ok (.iload 4, 2)) (d2 : decode cL_law (pc + 3) = .ok (.iconst n1, 1)) (d3 : decode cL_law (pc + 4) = .ok (.iadd, 1)) (d4 : decode cL_law (pc + 5) = .ok (.iaload, 1))
    (d5 : decode cL_law (pc + 6) = .ok (.i2l, 1)) (d6 : decode cL_law (pc + 7) = .ok (.bipush 32, 2)) (d7 : decode cL_law (pc + 9) = .ok (.lshl, 1))
    (f0 : decode cL_law (pc + 10) = .ok (.aload_n 0, 1)) (f1 : decode cL_law (pc + 11) = .ok (.iload 4, 2)) (f2 : decode cL_law (pc + 13) = .ok (.iconst n2, 1)) (f3 : decode cL_law (pc + 14) = .ok (.iadd, 1)) (f4 : decode cL_law (pc + 15) = .ok (.iaload, 1))
    (f5 : decode cL_law (pc + 16) = .ok (.i2l, 1)) (f6 : decode cL_law (pc + 17) = .ok (.ldc2_w 34, 3)) (f7 : decode cL_law (pc + 20) = .ok (.land, 1)) (f8 : decode cL_law (pc + 21) = .ok (.lor, 1))
    (kk : W p l e R s m args below meth c H locs cells slots Q (F0 m (pc + 22) ls (.long (lwJ (xs (6 * k + u)) (xs (6 * k + v))) :: rest))) : W p l e R s m args below meth c H locs cells slots Q (F0 m pc ls rest) := by
  refine lw_ld S hX hS h0 h4 u hu hn1 d0 d1 d2 d3 d4 ?_
  refine lv_i2l S.1 S.2.1 d5 rfl ?_
  refine lv_bipush (v := 32) S.1 S.2.1 d6 (by decide) ?_
  refine lv_lshl S.1 S.2.1 d7 rfl ?_
  refine lw_ld (pc := pc + 10) S hX hS h0 h4 v hv hn2 f0 f1 f2 f3 f4 ?_
  refine lv_i2l S.1 S.2.1 f5 rfl ?_
  refine lv_ldc2 S.1 S.2.1 S.2.2.2.1 hw f6 ?_
  refine lv_land S.1 S.2.1 f7 ?_
  refine lv_lor S.1 S.2.1 f8 ?_
  exact kk
theorem lw_nz (S : CallFix p m c cL_law 8 s args lvW RL) {v : Int32} (d0 : decode cL_law pc = .ok (.ifCond .eq 7, 3)) (d1 : decode cL_law (pc + 3) = .ok (.iconst 1, 1)) (d2 : decode cL_law (pc + 4) = .ok (.goto 4, 3)) (d3 : decode cL_law (pc + 7) = .ok (.iconst 0, 1)) (kk : W p l e R s m args below meth c H locs cells slots Q (F0 m (pc + 8) ls (.int (lwZ v) :: rest))) : W p l e R s m args below meth c H locs cells slots Q (F0 m pc ls (.int v :: rest)) := by
  refine lv_if_eq (tgt := pc + 7) S.1 S.2.1 d0 (by omega) (fun h => ?_) (fun h => ?_)
  · refine lv_iconst (v := 0) S.1 S.2.1 d3 (by decide) ?_
    rw [show (0 : Int32) = lwZ v by unfold lwZ; rw [if_pos h]]
    exact kk
  · refine lv_iconst (v := 1) S.1 S.2.1 d1 (by decide) ?_
    refine lv_goto (tgt := pc + 8) S.1 S.2.1 d2 (by omega) ?_
    rw [show (1 : Int32) = lwZ v by unfold lwZ; rw [if_neg h]]
    exact kk
theorem lw_eqi (S : CallFix p m c cL_law 8 s args lvW RL) {v : Int32} {off : Int} (d : decode cL_law pc = .ok (.if_icmp .eq off, 3)) (ht : (pc : Int) + off = ((625 : Nat) : Int)) (kk : W p l e R s m args below meth c H locs cells slots Q (F0 m 625 ls rest)) : W p l e R s m args below meth c H locs cells slots Q (F0 m pc ls (.int v :: .int v :: rest)) := lv_icmp_eq (tgt := 625) S.1 S.2.1 d ht (fun _ => kk) (fun h => absurd rfl h)
theorem lw_eql (S : CallFix p m c cL_law 8 s args lvW RL) {v : Int64} {off : Int} {tgt : Nat} (d0 : decode cL_law pc = .ok (.lcmp, 1)) (d : decode cL_law (pc + 1) = .ok (.ifCond .eq off, 3)) (ht : ((pc + 1 : Nat) : Int) + off = (tgt : Int)) (kk : W p l e R s m args below meth c H locs cells slots Q (F0 m tgt ls rest)) : W p l e R s m args below meth c H locs cells slots Q (F0 m pc ls (.long v :: .long v :: rest)) := by
  refine W.lcmp S.1 S.2.1 d0 ?_
  exact lv_if_eq (tgt := tgt) S.1 S.2.1 d ht (fun _ => kk) (fun h => absurd ((lg_cmp_eq v v).mpr rfl) h)
end LAW4
/-- from a call's end on -/
def LNext (p : Program) (l : Launch) (e : Env) (s : State) (m : MethodId) (args : Array Value) (below : List Frame) (meth : Method) (c : Code) (D : va_G) (B : Nat) (cA : Nat → ClassId) (bs k : Nat) (Q : State → Prop) : Prop :=
  ∀ (a b : CwS) (fo : Nat → Int64) (H : Heap) (locs : List Loc) (ls : Array Slot) (cells slots : Nat), Rel0 a b → LO D B cA s.heap a b fo H locs → lv_has ls 8 (lwL bs B k) → cells ≤ 281 + 600 * (k + 1) + 8 * gR b 101 0 → slots ≤ 8522 + 9600 * (k + 1) + 134 * gR b 101 0 → W p l e room_1 s m args below meth c H locs cells slots Q (F0 m 625 ls [])
set_option maxHeartbeats 4000000 in
set_option maxRecDepth 100000 in
theorem law_0 {p : Program} {l : Launch} {e : Env} {s : State} {m : MethodId} {args : Array Value} {below : List Frame} {meth : Method} {c : Code} {H : Heap} {locs : List Loc} {cells slots : Nat} {Q : State → Prop} {ls : Array Slot} {bs L B k : Nat} {xs : Nat → Int32} {D : va_G} {cA : Nat → ClassId} {tb0 tb1 sa : Nat} {a b : CwS} {fo : Nat → Int64} (S : CallFix p m c cL_law 8 s args lvW RL) (hX : lwX bs L xs B k s) (hK : LK D B cA tb0 tb1 sa s) (r : Rel0 a b) (hO : LO D B cA s.heap a b fo H locs) (hl : lv_has ls 8 (lwL bs B k)) (hc : cells ≤ 281 + 600 * k + 8 * gR b 101 0) (hs : slots ≤ 8522 + 9600 * k + 134 * gR b 101 0) (kk : LNext p l e s m args below meth c D B cA bs k Q) : W p l e room_1 s m args below meth c H locs cells slots Q (F0 m 104 ls []) := by
  have hgw := fun (w : Cond) (h : w ∈ gwW) => S.2.2.2.2 w (List.mem_cons_of_mem _ h)
  have h0 := lv_at hl 0 rfl
  have h4 := lv_at hl 4 rfl
  have hk5 : k ≤ 511 := by have h1 := hX.2.2.2.1; have h2 := hX.2.2.2.2; omega
  have f10 : gR b 101 0 ≤ 10 := r.2.2.2.2.2
  obtain ⟨v, a2, ha, hbz⟩ := Eq0.both (Y := fun b => j_Mo_step (xs (6 * k + 1)) (xs (6 * k + 2)) (xs (6 * k + 3)) (xs (6 * k + 4)) b) r (fun b r => e_step r (xs (6 * k + 1)) (xs (6 * k + 2)) (xs (6 * k + 3)) (xs (6 * k + 4)))
  refine lv_aload_n S.1 S.2.1 dL_law_104 rfl (lv_at hl 1 rfl) ?_
  refine lw_ld S hX hO.S h0 h4 1 (by decide) rfl dL_law_105 dL_law_106 dL_law_108 dL_law_109 dL_law_110 ?_
  refine lw_ld S hX hO.S h0 h4 2 (by decide) rfl dL_law_111 dL_law_112 dL_law_114 dL_law_115 dL_law_116 ?_
  refine lw_ld S hX hO.S h0 h4 3 (by decide) rfl dL_law_117 dL_law_118 dL_law_120 dL_law_121 dL_law_122 ?_
  refine lw_ld S hX hO.S h0 h4 4 (by decide) rfl dL_law_123 dL_law_124 dL_law_126 dL_law_127 dL_law_128 ?_
  refine lc_calli (va_runV (As := [.int (xs (6 * k + 1)), .int (xs (6 * k + 2)), .int (xs (6 * k + 3)), .int (xs (6 * k + 4))]) (rest := []) S (c_CW_step l D (lcA B) (lad B) cA tb0 tb1 (xs (6 * k + 1)) (xs (6 * k + 2)) (xs (6 * k + 3)) (xs (6 * k + 4)) a v a2 ha) (cwV 4 S.2.2.2.2 (gw_V w_6854f9b8 w_97b0205d w_d2eeafaf w_0fc29077 w_413a6c79) rfl rfl rfl (by decide +kernel) ⟨Nat.le_of_ble_eq_true rfl, Nat.le_of_ble_eq_true rfl⟩) (lc_pre hK hO) rfl rfl hl.1 rfl (lv_room (Nat.le_of_ble_eq_true rfl)) dL_law_129 ⟨show _ ≤ 601024 from by omega, show _ ≤ 7293034 from by omega⟩) hO (fun z H locs hO => ?_)
  obtain ⟨b2, hy, r2, hR⟩ := hbz z
  obtain ⟨w1, w2, w3⟩ := hR.sz
  have f11 : gR b2 101 0 ≤ 10 := r2.2.2.2.2.2
  refine lv_aload_n S.1 S.2.1 dL_law_132 rfl (lv_at hl 2 rfl) ?_
  refine lw_ld S hX hO.S h0 h4 1 (by decide) rfl dL_law_133 dL_law_134 dL_law_136 dL_law_137 dL_law_138 ?_
  refine lw_ld S hX hO.S h0 h4 2 (by decide) rfl dL_law_139 dL_law_140 dL_law_142 dL_law_143 dL_law_144 ?_
  refine lw_ld S hX hO.S h0 h4 3 (by decide) rfl dL_law_145 dL_law_146 dL_law_148 dL_law_149 dL_law_150 ?_
  refine lw_ld S hX hO.S h0 h4 4 (by decide) rfl dL_law_151 dL_law_152 dL_law_154 dL_law_155 dL_law_156 ?_
  refine lm_calli (va_runV (As := [.int (xs (6 * k + 1)), .int (xs (6 * k + 2)), .int (xs (6 * k + 3)), .int (xs (6 * k + 4))]) (rest := [.int v]) S (c_Mo_step l D (lmA B) (B + 269) cA (sR b 101 2 z) (xs (6 * k + 1)) (xs (6 * k + 2)) (xs (6 * k + 3)) (xs (6 * k + 4)) v b2 hy) (cwV 4 S.2.2.2.2 (gw_V w_91f0ddda w_a4598443 w_4d705d8b w_18f41a94 w_ba00f89b) rfl rfl rfl (by decide +kernel) ⟨Nat.le_of_ble_eq_true rfl, Nat.le_of_ble_eq_true rfl⟩) (lm_pre hK hO) rfl rfl hl.1 rfl (lv_room (Nat.le_of_ble_eq_true rfl)) dL_law_157 ⟨show _ ≤ 601024 from by omega, show _ ≤ 7293034 from by omega⟩) hO (fun H locs hO => ?_)
  refine lw_eqi S dL_law_160 (by decide) ?_
  exact kk a2 b2 fo H locs ls _ _ r2 hO hl (by omega) (by omega)
set_option maxHeartbeats 4000000 in
set_option maxRecDepth 100000 in
theorem law_1 {p : Program} {l : Launch} {e : Env} {s : State} {m : MethodId} {args : Array Value} {below : List Frame} {meth : Method} {c : Code} {H : Heap} {locs : List Loc} {cells slots : Nat} {Q : State → Prop} {ls : Array Slot} {bs L B k : Nat} {xs : Nat → Int32} {D : va_G} {cA : Nat → ClassId} {tb0 tb1 sa : Nat} {a b : CwS} {fo : Nat → Int64} (S : CallFix p m c cL_law 8 s args lvW RL) (hX : lwX bs L xs B k s) (hK : LK D B cA tb0 tb1 sa s) (r : Rel0 a b) (hO : LO D B cA s.heap a b fo H locs) (hl : lv_has ls 8 (lwL bs B k)) (hc : cells ≤ 281 + 600 * k + 8 * gR b 101 0) (hs : slots ≤ 8522 + 9600 * k + 134 * gR b 101 0) (kk : LNext p l e s m args below meth c D B cA bs k Q) : W p l e room_1 s m args below meth c H locs cells slots Q (F0 m 165 ls []) := by
  have hgw := fun (w : Cond) (h : w ∈ gwW) => S.2.2.2.2 w (List.mem_cons_of_mem _ h)
  have h0 := lv_at hl 0 rfl
  have h4 := lv_at hl 4 rfl
  have hk5 : k ≤ 511 := by have h1 := hX.2.2.2.1; have h2 := hX.2.2.2.2; omega
  have f10 : gR b 101 0 ≤ 10 := r.2.2.2.2.2
  obtain ⟨v, a2, ha, hbz⟩ := Eq0.both (Y := fun b => j_Mo_empty (xs (6 * k + 1)) (xs (6 * k + 2)) b) r (fun b r => e_empty r (xs (6 * k + 1)) (xs (6 * k + 2)))
  refine lv_aload_n S.1 S.2.1 dL_law_165 rfl (lv_at hl 1 rfl) ?_
  refine lw_ld S hX hO.S h0 h4 1 (by decide) rfl dL_law_166 dL_law_167 dL_law_169 dL_law_170 dL_law_171 ?_
  refine lw_ld S hX hO.S h0 h4 2 (by decide) rfl dL_law_172 dL_law_173 dL_law_175 dL_law_176 dL_law_177 ?_
  refine lc_calli (va_runV (As := [.int (xs (6 * k + 1)), .int (xs (6 * k + 2))]) (rest := []) S (c_CW_empty l D (lcA B) (lad B) cA tb0 tb1 (xs (6 * k + 1)) (xs (6 * k + 2)) a v a2 ha) (cwV 2 S.2.2.2.2 (gw_V w_64e13e6d w_481baf9c w_69e41324 w_0fc29077 w_6a1e3b60) rfl rfl rfl (by decide +kernel) ⟨Nat.le_of_ble_eq_true rfl, Nat.le_of_ble_eq_true rfl⟩) (lc_pre hK hO) rfl rfl hl.1 rfl (lv_room (Nat.le_of_ble_eq_true rfl)) dL_law_178 ⟨show _ ≤ 601024 from by omega, show _ ≤ 7293034 from by omega⟩) hO (fun z H locs hO => ?_)
  obtain ⟨b2, hy, r2, hR⟩ := hbz z
  obtain ⟨w1, w2, w3⟩ := hR.sz
  have f11 : gR b2 101 0 ≤ 10 := r2.2.2.2.2.2
  refine lv_aload_n S.1 S.2.1 dL_law_181 rfl (lv_at hl 2 rfl) ?_
  refine lw_ld S hX hO.S h0 h4 1 (by decide) rfl dL_law_182 dL_law_183 dL_law_185 dL_law_186 dL_law_187 ?_
  refine lw_ld S hX hO.S h0 h4 2 (by decide) rfl dL_law_188 dL_law_189 dL_law_191 dL_law_192 dL_law_193 ?_
  refine lm_calli (va_runV (As := [.int (xs (6 * k + 1)), .int (xs (6 * k + 2))]) (rest := [.int v]) S (c_Mo_empty l D (lmA B) (B + 269) cA (sR b 101 2 z) (xs (6 * k + 1)) (xs (6 * k + 2)) v b2 hy) (cwV 2 S.2.2.2.2 (gw_V w_73be2ace w_9d18ce5b w_2167c184 w_18f41a94 w_afac87e4) rfl rfl rfl (by decide +kernel) ⟨Nat.le_of_ble_eq_true rfl, Nat.le_of_ble_eq_true rfl⟩) (lm_pre hK hO) rfl rfl hl.1 rfl (lv_room (Nat.le_of_ble_eq_true rfl)) dL_law_194 ⟨show _ ≤ 601024 from by omega, show _ ≤ 7293034 from by omega⟩) hO (fun H locs hO => ?_)
  refine lw_eqi S dL_law_197 (by decide) ?_
  exact kk a2 b2 fo H locs ls _ _ r2 hO hl (by omega) (by omega)
set_option maxHeartbeats 4000000 in
set_option maxRecDepth 100000 in
theorem law_2 {p : Program} {l : Launch} {e : Env} {s : State} {m : MethodId} {args : Array Value} {below : List Frame} {meth : Method} {c : Code} {H : Heap} {locs : List Loc} {cells slots : Nat} {Q : State → Prop} {ls : Array Slot} {bs L B k : Nat} {xs : Nat → Int32} {D : va_G} {cA : Nat → ClassId} {tb0 tb1 sa : Nat} {a b : CwS} {fo : Nat → Int64} (S : CallFix p m c cL_law 8 s args lvW RL) (hX : lwX bs L xs B k s) (hK : LK D B cA tb0 tb1 sa s) (r : Rel0 a b) (hO : LO D B cA s.heap a b fo H locs) (hl : lv_has ls 8 (lwL bs B k)) (hc : cells ≤ 281 + 600 * k + 8 * gR b 101 0) (hs : slots ≤ 8522 + 9600 * k + 134 * gR b 101 0) (kk : LNext p l e s m args below meth c D B cA bs k Q) : W p l e room_1 s m args below meth c H locs cells slots Q (F0 m 202 ls []) := by
  have hgw := fun (w : Cond) (h : w ∈ gwW) => S.2.2.2.2 w (List.mem_cons_of_mem _ h)
  have h0 := lv_at hl 0 rfl
  have h4 := lv_at hl 4 rfl
  have hk5 : k ≤ 511 := by have h1 := hX.2.2.2.1; have h2 := hX.2.2.2.2; omega
  have f10 : gR b 101 0 ≤ 10 := r.2.2.2.2.2
  obtain ⟨v, a2, ha, hbz⟩ := Eq0.both (Y := fun b => j_Mo_guard (xs (6 * k + 1)) (lwZ (xs (6 * k + 2))) b) r (fun b r => e_guard r (xs (6 * k + 1)) (lwZ (xs (6 * k + 2))))
  refine lv_aload_n S.1 S.2.1 dL_law_202 rfl (lv_at hl 1 rfl) ?_
  refine lw_ld S hX hO.S h0 h4 1 (by decide) rfl dL_law_203 dL_law_204 dL_law_206 dL_law_207 dL_law_208 ?_
  refine lw_ld S hX hO.S h0 h4 2 (by decide) rfl dL_law_209 dL_law_210 dL_law_212 dL_law_213 dL_law_214 ?_
  refine lw_nz S dL_law_215 dL_law_218 dL_law_219 dL_law_222 ?_
  refine lc_calli (va_runV (As := [.int (xs (6 * k + 1)), .int (lwZ (xs (6 * k + 2)))]) (rest := []) S (c_CW_guard l D (lcA B) (lad B) cA tb0 tb1 (xs (6 * k + 1)) (lwZ (xs (6 * k + 2))) a v a2 ha) (cwV 2 S.2.2.2.2 (gw_V w_4bb7a979 w_6f23596d w_e199905c w_0fc29077 w_148ccaf4) rfl rfl rfl (by decide +kernel) ⟨Nat.le_of_ble_eq_true rfl, Nat.le_of_ble_eq_true rfl⟩) (lc_pre hK hO) rfl rfl hl.1 rfl (lv_room (Nat.le_of_ble_eq_true rfl)) dL_law_223 ⟨show _ ≤ 601024 from by omega, show _ ≤ 7293034 from by omega⟩) hO (fun z H locs hO => ?_)
  obtain ⟨b2, hy, r2, hR⟩ := hbz z
  obtain ⟨w1, w2, w3⟩ := hR.sz
  have f11 : gR b2 101 0 ≤ 10 := r2.2.2.2.2.2
  refine lv_aload_n S.1 S.2.1 dL_law_226 rfl (lv_at hl 2 rfl) ?_
  refine lw_ld S hX hO.S h0 h4 1 (by decide) rfl dL_law_227 dL_law_228 dL_law_230 dL_law_231 dL_law_232 ?_
  refine lw_ld S hX hO.S h0 h4 2 (by decide) rfl dL_law_233 dL_law_234 dL_law_236 dL_law_237 dL_law_238 ?_
  refine lw_nz S dL_law_239 dL_law_242 dL_law_243 dL_law_246 ?_
  refine lm_calli (va_runV (As := [.int (xs (6 * k + 1)), .int (lwZ (xs (6 * k + 2)))]) (rest := [.int v]) S (c_Mo_guard l D (lmA B) (B + 269) cA (sR b 101 2 z) (xs (6 * k + 1)) (lwZ (xs (6 * k + 2))) v b2 hy) (cwV 2 S.2.2.2.2 (gw_V w_f2627bd8 w_8341afd6 w_1e3c4b58 w_18f41a94 w_92852024) rfl rfl rfl (by decide +kernel) ⟨Nat.le_of_ble_eq_true rfl, Nat.le_of_ble_eq_true rfl⟩) (lm_pre hK hO) rfl rfl hl.1 rfl (lv_room (Nat.le_of_ble_eq_true rfl)) dL_law_247 ⟨show _ ≤ 601024 from by omega, show _ ≤ 7293034 from by omega⟩) hO (fun H locs hO => ?_)
  refine lw_eqi S dL_law_250 (by decide) ?_
  exact kk a2 b2 fo H locs ls _ _ r2 hO hl (by omega) (by omega)
set_option maxHeartbeats 4000000 in
set_option maxRecDepth 100000 in
theorem law_3 {p : Program} {l : Launch} {e : Env} {s : State} {m : MethodId} {args : Array Value} {below : List Frame} {meth : Method} {c : Code} {H : Heap} {locs : List Loc} {cells slots : Nat} {Q : State → Prop} {ls : Array Slot} {bs L B k : Nat} {xs : Nat → Int32} {D : va_G} {cA : Nat → ClassId} {tb0 tb1 sa : Nat} {a b : CwS} {fo : Nat → Int64} (S : CallFix p m c cL_law 8 s args lvW RL) (hX : lwX bs L xs B k s) (hK : LK D B cA tb0 tb1 sa s) (r : Rel0 a b) (hO : LO D B cA s.heap a b fo H locs) (hl : lv_has ls 8 (lwL bs B k)) (hc : cells ≤ 281 + 600 * k + 8 * gR b 101 0) (hs : slots ≤ 8522 + 9600 * k + 134 * gR b 101 0) (kk : LNext p l e s m args below meth c D B cA bs k Q) : W p l e room_1 s m args below meth c H locs cells slots Q (F0 m 255 ls []) := by
  have hgw := fun (w : Cond) (h : w ∈ gwW) => S.2.2.2.2 w (List.mem_cons_of_mem _ h)
  have h0 := lv_at hl 0 rfl
  have h4 := lv_at hl 4 rfl
  have hk5 : k ≤ 511 := by have h1 := hX.2.2.2.1; have h2 := hX.2.2.2.2; omega
  have f10 : gR b 101 0 ≤ 10 := r.2.2.2.2.2
  obtain ⟨v, a2, ha, hbz⟩ := Eq0.both (Y := fun b => j_Mo_fund (xs (6 * k + 1)) (lwJ (xs (6 * k + 2)) (xs (6 * k + 3))) b) r (fun b r => e_fund r (xs (6 * k + 1)) (lwJ (xs (6 * k + 2)) (xs (6 * k + 3))))
  refine lv_aload_n S.1 S.2.1 dL_law_255 rfl (lv_at hl 1 rfl) ?_
  refine lw_ld S hX hO.S h0 h4 1 (by decide) rfl dL_law_256 dL_law_257 dL_law_259 dL_law_260 dL_law_261 ?_
  refine lw_jl S (hgw _ w_d44e2661) hX hO.S h0 h4 2 3 (by decide) (by decide) rfl rfl dL_law_262 dL_law_263 dL_law_265 dL_law_266 dL_law_267 dL_law_268 dL_law_269 dL_law_271 dL_law_272 dL_law_273 dL_law_275 dL_law_276 dL_law_277 dL_law_278 dL_law_279 dL_law_282 dL_law_283 ?_
  refine lc_calli (va_runV (As := [.int (xs (6 * k + 1)), .long (lwJ (xs (6 * k + 2)) (xs (6 * k + 3)))]) (rest := []) S (c_CW_fund l D (lcA B) (lad B) cA tb0 tb1 (xs (6 * k + 1)) (lwJ (xs (6 * k + 2)) (xs (6 * k + 3))) a v a2 ha) (cwV 2 S.2.2.2.2 (gw_V w_f115fa55 w_3b11595b w_7aa511ae w_0fc29077 w_01eadaeb) rfl rfl rfl (by decide +kernel) ⟨Nat.le_of_ble_eq_true rfl, Nat.le_of_ble_eq_true rfl⟩) (lc_pre hK hO) rfl rfl hl.1 rfl (lv_room (Nat.le_of_ble_eq_true rfl)) dL_law_284 ⟨show _ ≤ 601024 from by omega, show _ ≤ 7293034 from by omega⟩) hO (fun z H locs hO => ?_)
  obtain ⟨b2, hy, r2, hR⟩ := hbz z
  obtain ⟨w1, w2, w3⟩ := hR.sz
  have f11 : gR b2 101 0 ≤ 10 := r2.2.2.2.2.2
  refine lv_aload_n S.1 S.2.1 dL_law_287 rfl (lv_at hl 2 rfl) ?_
  refine lw_ld S hX hO.S h0 h4 1 (by decide) rfl dL_law_288 dL_law_289 dL_law_291 dL_law_292 dL_law_293 ?_
  refine lw_jl S (hgw _ w_d44e2661) hX hO.S h0 h4 2 3 (by decide) (by decide) rfl rfl dL_law_294 dL_law_295 dL_law_297 dL_law_298 dL_law_299 dL_law_300 dL_law_301 dL_law_303 dL_law_304 dL_law_305 dL_law_307 dL_law_308 dL_law_309 dL_law_310 dL_law_311 dL_law_314 dL_law_315 ?_
  refine lm_calli (va_runV (As := [.int (xs (6 * k + 1)), .long (lwJ (xs (6 * k + 2)) (xs (6 * k + 3)))]) (rest := [.int v]) S (c_Mo_fund l D (lmA B) (B + 269) cA (sR b 101 2 z) (xs (6 * k + 1)) (lwJ (xs (6 * k + 2)) (xs (6 * k + 3))) v b2 hy) (cwV 2 S.2.2.2.2 (gw_V w_41c08359 w_d4b61a14 w_bad05033 w_18f41a94 w_9330aa75) rfl rfl rfl (by decide +kernel) ⟨Nat.le_of_ble_eq_true rfl, Nat.le_of_ble_eq_true rfl⟩) (lm_pre hK hO) rfl rfl hl.1 rfl (lv_room (Nat.le_of_ble_eq_true rfl)) dL_law_316 ⟨show _ ≤ 601024 from by omega, show _ ≤ 7293034 from by omega⟩) hO (fun H locs hO => ?_)
  refine lw_eqi S dL_law_319 (by decide) ?_
  exact kk a2 b2 fo H locs ls _ _ r2 hO hl (by omega) (by omega)
set_option maxHeartbeats 4000000 in
set_option maxRecDepth 100000 in
theorem law_4 {p : Program} {l : Launch} {e : Env} {s : State} {m : MethodId} {args : Array Value} {below : List Frame} {meth : Method} {c : Code} {H : Heap} {locs : List Loc} {cells slots : Nat} {Q : State → Prop} {ls : Array Slot} {bs L B k : Nat} {xs : Nat → Int32} {D : va_G} {cA : Nat → ClassId} {tb0 tb1 sa : Nat} {a b : CwS} {fo : Nat → Int64} (S : CallFix p m c cL_law 8 s args lvW RL) (hX : lwX bs L xs B k s) (hK : LK D B cA tb0 tb1 sa s) (r : Rel0 a b) (hO : LO D B cA s.heap a b fo H locs) (hl : lv_has ls 8 (lwL bs B k)) (hc : cells ≤ 281 + 600 * k + 8 * gR b 101 0) (hs : slots ≤ 8522 + 9600 * k + 134 * gR b 101 0) (kk : LNext p l e s m args below meth c D B cA bs k Q) : W p l e room_1 s m args below meth c H locs cells slots Q (F0 m 324 ls []) := by
  have hgw := fun (w : Cond) (h : w ∈ gwW) => S.2.2.2.2 w (List.mem_cons_of_mem _ h)
  have h0 := lv_at hl 0 rfl
  have h4 := lv_at hl 4 rfl
  have hk5 : k ≤ 511 := by have h1 := hX.2.2.2.1; have h2 := hX.2.2.2.2; omega
  have f10 : gR b 101 0 ≤ 10 := r.2.2.2.2.2
  obtain ⟨v, a2, ha, hbz⟩ := Eq0.both (Y := fun b => j_Mo_run (xs (6 * k + 1)) (xs (6 * k + 2)) (lwJ (xs (6 * k + 3)) (xs (6 * k + 4))) (xs (6 * k + 5)) b) r (fun b r => e_run r (xs (6 * k + 1)) (xs (6 * k + 2)) (lwJ (xs (6 * k + 3)) (xs (6 * k + 4))) (xs (6 * k + 5)))
  refine lv_aload_n S.1 S.2.1 dL_law_324 rfl (lv_at hl 1 rfl) ?_
  refine lw_ld S hX hO.S h0 h4 1 (by decide) rfl dL_law_325 dL_law_326 dL_law_328 dL_law_329 dL_law_330 ?_
  refine lw_ld S hX hO.S h0 h4 2 (by decide) rfl dL_law_331 dL_law_332 dL_law_334 dL_law_335 dL_law_336 ?_
  refine lw_jl S (hgw _ w_d44e2661) hX hO.S h0 h4 3 4 (by decide) (by decide) rfl rfl dL_law_337 dL_law_338 dL_law_340 dL_law_341 dL_law_342 dL_law_343 dL_law_344 dL_law_346 dL_law_347 dL_law_348 dL_law_350 dL_law_351 dL_law_352 dL_law_353 dL_law_354 dL_law_357 dL_law_358 ?_
  refine lw_ld S hX hO.S h0 h4 5 (by decide) rfl dL_law_359 dL_law_360 dL_law_362 dL_law_363 dL_law_364 ?_
  refine lc_calli (va_runV (As := [.int (xs (6 * k + 1)), .int (xs (6 * k + 2)), .long (lwJ (xs (6 * k + 3)) (xs (6 * k + 4))), .int (xs (6 * k + 5))]) (rest := []) S (c_CW_run l D (lcA B) (lad B) cA tb0 tb1 (xs (6 * k + 1)) (xs (6 * k + 2)) (lwJ (xs (6 * k + 3)) (xs (6 * k + 4))) (xs (6 * k + 5)) a v a2 ha) (cwV 4 S.2.2.2.2 (gw_V w_e7a0237a w_09822ba3 w_411af23a w_0fc29077 w_6c3741c3) rfl rfl rfl (by decide +kernel) ⟨Nat.le_of_ble_eq_true rfl, Nat.le_of_ble_eq_true rfl⟩) (lc_pre hK hO) rfl rfl hl.1 rfl (lv_room (Nat.le_of_ble_eq_true rfl)) dL_law_365 ⟨show _ ≤ 601024 from by omega, show _ ≤ 7293034 from by omega⟩) hO (fun z H locs hO => ?_)
  obtain ⟨b2, hy, r2, hR⟩ := hbz z
  obtain ⟨w1, w2, w3⟩ := hR.sz
  have f11 : gR b2 101 0 ≤ 10 := r2.2.2.2.2.2
  refine lv_aload_n S.1 S.2.1 dL_law_368 rfl (lv_at hl 2 rfl) ?_
  refine lw_ld S hX hO.S h0 h4 1 (by decide) rfl dL_law_369 dL_law_370 dL_law_372 dL_law_373 dL_law_374 ?_
  refine lw_ld S hX hO.S h0 h4 2 (by decide) rfl dL_law_375 dL_law_376 dL_law_378 dL_law_379 dL_law_380 ?_
  refine lw_jl S (hgw _ w_d44e2661) hX hO.S h0 h4 3 4 (by decide) (by decide) rfl rfl dL_law_381 dL_law_382 dL_law_384 dL_law_385 dL_law_386 dL_law_387 dL_law_388 dL_law_390 dL_law_391 dL_law_392 dL_law_394 dL_law_395 dL_law_396 dL_law_397 dL_law_398 dL_law_401 dL_law_402 ?_
  refine lw_ld S hX hO.S h0 h4 5 (by decide) rfl dL_law_403 dL_law_404 dL_law_406 dL_law_407 dL_law_408 ?_
  refine lm_calli (va_runV (As := [.int (xs (6 * k + 1)), .int (xs (6 * k + 2)), .long (lwJ (xs (6 * k + 3)) (xs (6 * k + 4))), .int (xs (6 * k + 5))]) (rest := [.int v]) S (c_Mo_run l D (lmA B) (B + 269) cA (sR b 101 2 z) (xs (6 * k + 1)) (xs (6 * k + 2)) (lwJ (xs (6 * k + 3)) (xs (6 * k + 4))) (xs (6 * k + 5)) v b2 hy) (cwV 4 S.2.2.2.2 (gw_V w_af5ec646 w_490077dc w_6cf9b4c9 w_18f41a94 w_97322673) rfl rfl rfl (by decide +kernel) ⟨Nat.le_of_ble_eq_true rfl, Nat.le_of_ble_eq_true rfl⟩) (lm_pre hK hO) rfl rfl hl.1 rfl (lv_room (Nat.le_of_ble_eq_true rfl)) dL_law_409 ⟨show _ ≤ 601024 from by omega, show _ ≤ 7293034 from by omega⟩) hO (fun H locs hO => ?_)
  refine lw_eqi S dL_law_412 (by decide) ?_
  exact kk a2 b2 fo H locs ls _ _ r2 hO hl (by omega) (by omega)
set_option maxHeartbeats 4000000 in
set_option maxRecDepth 100000 in
theorem law_5 {p : Program} {l : Launch} {e : Env} {s : State} {m : MethodId} {args : Array Value} {below : List Frame} {meth : Method} {c : Code} {H : Heap} {locs : List Loc} {cells slots : Nat} {Q : State → Prop} {ls : Array Slot} {bs L B k : Nat} {xs : Nat → Int32} {D : va_G} {cA : Nat → ClassId} {tb0 tb1 sa : Nat} {a b : CwS} {fo : Nat → Int64} (S : CallFix p m c cL_law 8 s args lvW RL) (hX : lwX bs L xs B k s) (hK : LK D B cA tb0 tb1 sa s) (r : Rel0 a b) (hO : LO D B cA s.heap a b fo H locs) (hl : lv_has ls 8 (lwL bs B k)) (hc : cells ≤ 281 + 600 * k + 8 * gR b 101 0) (hs : slots ≤ 8522 + 9600 * k + 134 * gR b 101 0) (kk : LNext p l e s m args below meth c D B cA bs k Q) : W p l e room_1 s m args below meth c H locs cells slots Q (F0 m 417 ls []) := by
  have hgw := fun (w : Cond) (h : w ∈ gwW) => S.2.2.2.2 w (List.mem_cons_of_mem _ h)
  have h0 := lv_at hl 0 rfl
  have h4 := lv_at hl 4 rfl
  have hk5 : k ≤ 511 := by have h1 := hX.2.2.2.1; have h2 := hX.2.2.2.2; omega
  have f10 : gR b 101 0 ≤ 10 := r.2.2.2.2.2
  obtain ⟨v, a2, ha, hbz⟩ := Eq0.both (Y := fun b => j_Mo_given  b) r (fun b r => e_given r )
  refine lv_aload_n S.1 S.2.1 dL_law_417 rfl (lv_at hl 1 rfl) ?_
  refine lc_calll (va_runV (As := []) (rest := []) S (c_CW_given l D (lcA B) (lad B) cA tb0 tb1  a v a2 ha) (cwV 0 S.2.2.2.2 (gw_V w_4af3eac7 w_2c91ae82 w_4097c4f7 w_0fc29077 w_53a7f50f) rfl rfl rfl (by decide +kernel) ⟨Nat.le_of_ble_eq_true rfl, Nat.le_of_ble_eq_true rfl⟩) (lc_pre hK hO) rfl rfl hl.1 rfl (lv_room (Nat.le_of_ble_eq_true rfl)) dL_law_418 ⟨show _ ≤ 601024 from by omega, show _ ≤ 7293034 from by omega⟩) hO (fun z H locs hO => ?_)
  obtain ⟨b2, hy, r2, hR⟩ := hbz z
  obtain ⟨w1, w2, w3⟩ := hR.sz
  have f11 : gR b2 101 0 ≤ 10 := r2.2.2.2.2.2
  refine lv_aload_n S.1 S.2.1 dL_law_421 rfl (lv_at hl 2 rfl) ?_
  refine lm_calll (va_runV (As := []) (rest := [.long v]) S (c_Mo_given l D (lmA B) (B + 269) cA (sR b 101 2 z)  v b2 hy) (cwV 0 S.2.2.2.2 (gw_V w_1c97f770 w_52051e11 w_d93e395f w_18f41a94 w_f4725224) rfl rfl rfl (by decide +kernel) ⟨Nat.le_of_ble_eq_true rfl, Nat.le_of_ble_eq_true rfl⟩) (lm_pre hK hO) rfl rfl hl.1 rfl (lv_room (Nat.le_of_ble_eq_true rfl)) dL_law_422 ⟨show _ ≤ 601024 from by omega, show _ ≤ 7293034 from by omega⟩) hO (fun H locs hO => ?_)
  refine lw_eql (tgt := 625) S dL_law_425 dL_law_426 (by decide) ?_
  exact kk a2 b2 fo H locs ls _ _ r2 hO hl (by omega) (by omega)
set_option maxHeartbeats 4000000 in
set_option maxRecDepth 100000 in
theorem law_6 {p : Program} {l : Launch} {e : Env} {s : State} {m : MethodId} {args : Array Value} {below : List Frame} {meth : Method} {c : Code} {H : Heap} {locs : List Loc} {cells slots : Nat} {Q : State → Prop} {ls : Array Slot} {bs L B k : Nat} {xs : Nat → Int32} {D : va_G} {cA : Nat → ClassId} {tb0 tb1 sa : Nat} {a b : CwS} {fo : Nat → Int64} (S : CallFix p m c cL_law 8 s args lvW RL) (hX : lwX bs L xs B k s) (hK : LK D B cA tb0 tb1 sa s) (r : Rel0 a b) (hO : LO D B cA s.heap a b fo H locs) (hl : lv_has ls 8 (lwL bs B k)) (hc : cells ≤ 281 + 600 * k + 8 * gR b 101 0) (hs : slots ≤ 8522 + 9600 * k + 134 * gR b 101 0) (kk : LNext p l e s m args below meth c D B cA bs k Q) : W p l e room_1 s m args below meth c H locs cells slots Q (F0 m 431 ls []) := by
  have hgw := fun (w : Cond) (h : w ∈ gwW) => S.2.2.2.2 w (List.mem_cons_of_mem _ h)
  have h0 := lv_at hl 0 rfl
  have h4 := lv_at hl 4 rfl
  have hk5 : k ≤ 511 := by have h1 := hX.2.2.2.1; have h2 := hX.2.2.2.2; omega
  have f10 : gR b 101 0 ≤ 10 := r.2.2.2.2.2
  obtain ⟨v, a2, ha, hbz⟩ := Eq0.both (Y := fun b => j_Mo_told (xs (6 * k + 1)) b) r (fun b r => e_told r (xs (6 * k + 1)))
  refine lv_aload_n S.1 S.2.1 dL_law_431 rfl (lv_at hl 1 rfl) ?_
  refine lw_ld S hX hO.S h0 h4 1 (by decide) rfl dL_law_432 dL_law_433 dL_law_435 dL_law_436 dL_law_437 ?_
  refine lc_calli (va_runV (As := [.int (xs (6 * k + 1))]) (rest := []) S (c_CW_told l D (lcA B) (lad B) cA tb0 tb1 (xs (6 * k + 1)) a v a2 ha) (cwV 1 S.2.2.2.2 (gw_V w_7878956f w_5a0718d2 w_cc643993 w_0fc29077 w_f2d11f66) rfl rfl rfl (by decide +kernel) ⟨Nat.le_of_ble_eq_true rfl, Nat.le_of_ble_eq_true rfl⟩) (lc_pre hK hO) rfl rfl hl.1 rfl (lv_room (Nat.le_of_ble_eq_true rfl)) dL_law_438 ⟨show _ ≤ 601024 from by omega, show _ ≤ 7293034 from by omega⟩) hO (fun z H locs hO => ?_)
  obtain ⟨b2, hy, r2, hR⟩ := hbz z
  obtain ⟨w1, w2, w3⟩ := hR.sz
  have f11 : gR b2 101 0 ≤ 10 := r2.2.2.2.2.2
  refine lv_aload_n S.1 S.2.1 dL_law_441 rfl (lv_at hl 2 rfl) ?_
  refine lw_ld S hX hO.S h0 h4 1 (by decide) rfl dL_law_442 dL_law_443 dL_law_445 dL_law_446 dL_law_447 ?_
  refine lm_calli (va_runV (As := [.int (xs (6 * k + 1))]) (rest := [.int v]) S (c_Mo_told l D (lmA B) (B + 269) cA (sR b 101 2 z) (xs (6 * k + 1)) v b2 hy) (cwV 1 S.2.2.2.2 (gw_V w_59013a4b w_dd3f0b61 w_becd897c w_18f41a94 w_d8cf524a) rfl rfl rfl (by decide +kernel) ⟨Nat.le_of_ble_eq_true rfl, Nat.le_of_ble_eq_true rfl⟩) (lm_pre hK hO) rfl rfl hl.1 rfl (lv_room (Nat.le_of_ble_eq_true rfl)) dL_law_448 ⟨show _ ≤ 601024 from by omega, show _ ≤ 7293034 from by omega⟩) hO (fun H locs hO => ?_)
  refine lw_eqi S dL_law_451 (by decide) ?_
  exact kk a2 b2 fo H locs ls _ _ r2 hO hl (by omega) (by omega)
set_option maxHeartbeats 4000000 in
set_option maxRecDepth 100000 in
theorem law_7 {p : Program} {l : Launch} {e : Env} {s : State} {m : MethodId} {args : Array Value} {below : List Frame} {meth : Method} {c : Code} {H : Heap} {locs : List Loc} {cells slots : Nat} {Q : State → Prop} {ls : Array Slot} {bs L B k : Nat} {xs : Nat → Int32} {D : va_G} {cA : Nat → ClassId} {tb0 tb1 sa : Nat} {a b : CwS} {fo : Nat → Int64} (S : CallFix p m c cL_law 8 s args lvW RL) (hX : lwX bs L xs B k s) (hK : LK D B cA tb0 tb1 sa s) (r : Rel0 a b) (hO : LO D B cA s.heap a b fo H locs) (hl : lv_has ls 8 (lwL bs B k)) (hc : cells ≤ 281 + 600 * k + 8 * gR b 101 0) (hs : slots ≤ 8522 + 9600 * k + 134 * gR b 101 0) (kk : LNext p l e s m args below meth c D B cA bs k Q) : W p l e room_1 s m args below meth c H locs cells slots Q (F0 m 456 ls []) := by
  have hgw := fun (w : Cond) (h : w ∈ gwW) => S.2.2.2.2 w (List.mem_cons_of_mem _ h)
  have h0 := lv_at hl 0 rfl
  have h4 := lv_at hl 4 rfl
  have hk5 : k ≤ 511 := by have h1 := hX.2.2.2.1; have h2 := hX.2.2.2.2; omega
  have f10 : gR b 101 0 ≤ 10 := r.2.2.2.2.2
  obtain ⟨v, a2, ha, hbz⟩ := Eq0.both (Y := fun b => j_Mo_leaf (xs (6 * k + 1)) (xs (6 * k + 2)) b) r (fun b r => e_leaf r (xs (6 * k + 1)) (xs (6 * k + 2)))
  refine lv_aload_n S.1 S.2.1 dL_law_456 rfl (lv_at hl 1 rfl) ?_
  refine lw_ld S hX hO.S h0 h4 1 (by decide) rfl dL_law_457 dL_law_458 dL_law_460 dL_law_461 dL_law_462 ?_
  refine lw_ld S hX hO.S h0 h4 2 (by decide) rfl dL_law_463 dL_law_464 dL_law_466 dL_law_467 dL_law_468 ?_
  refine lc_calll (va_runV (As := [.int (xs (6 * k + 1)), .int (xs (6 * k + 2))]) (rest := []) S (c_CW_leaf l D (lcA B) (lad B) cA tb0 tb1 (xs (6 * k + 1)) (xs (6 * k + 2)) a v a2 ha) (cwV 2 S.2.2.2.2 (gw_V w_31b20af3 w_5f5bb0b3 w_164148fa w_0fc29077 w_360a11d0) rfl rfl rfl (by decide +kernel) ⟨Nat.le_of_ble_eq_true rfl, Nat.le_of_ble_eq_true rfl⟩) (lc_pre hK hO) rfl rfl hl.1 rfl (lv_room (Nat.le_of_ble_eq_true rfl)) dL_law_469 ⟨show _ ≤ 601024 from by omega, show _ ≤ 7293034 from by omega⟩) hO (fun z H locs hO => ?_)
  obtain ⟨b2, hy, r2, hR⟩ := hbz z
  obtain ⟨w1, w2, w3⟩ := hR.sz
  have f11 : gR b2 101 0 ≤ 10 := r2.2.2.2.2.2
  refine lv_aload_n S.1 S.2.1 dL_law_472 rfl (lv_at hl 2 rfl) ?_
  refine lw_ld S hX hO.S h0 h4 1 (by decide) rfl dL_law_473 dL_law_474 dL_law_476 dL_law_477 dL_law_478 ?_
  refine lw_ld S hX hO.S h0 h4 2 (by decide) rfl dL_law_479 dL_law_480 dL_law_482 dL_law_483 dL_law_484 ?_
  refine lm_calll (va_runV (As := [.int (xs (6 * k + 1)), .int (xs (6 * k + 2))]) (rest := [.long v]) S (c_Mo_leaf l D (lmA B) (B + 269) cA (sR b 101 2 z) (xs (6 * k + 1)) (xs (6 * k + 2)) v b2 hy) (cwV 2 S.2.2.2.2 (gw_V w_f7c219c2 w_24446e3f w_f70d19cd w_18f41a94 w_2f1be05e) rfl rfl rfl (by decide +kernel) ⟨Nat.le_of_ble_eq_true rfl, Nat.le_of_ble_eq_true rfl⟩) (lm_pre hK hO) rfl rfl hl.1 rfl (lv_room (Nat.le_of_ble_eq_true rfl)) dL_law_485 ⟨show _ ≤ 601024 from by omega, show _ ≤ 7293034 from by omega⟩) hO (fun H locs hO => ?_)
  refine lw_eql (tgt := 625) S dL_law_488 dL_law_489 (by decide) ?_
  exact kk a2 b2 fo H locs ls _ _ r2 hO hl (by omega) (by omega)
set_option maxHeartbeats 4000000 in
set_option maxRecDepth 100000 in
theorem law_8 {p : Program} {l : Launch} {e : Env} {s : State} {m : MethodId} {args : Array Value} {below : List Frame} {meth : Method} {c : Code} {H : Heap} {locs : List Loc} {cells slots : Nat} {Q : State → Prop} {ls : Array Slot} {bs L B k : Nat} {xs : Nat → Int32} {D : va_G} {cA : Nat → ClassId} {tb0 tb1 sa : Nat} {a b : CwS} {fo : Nat → Int64} (S : CallFix p m c cL_law 8 s args lvW RL) (hX : lwX bs L xs B k s) (hK : LK D B cA tb0 tb1 sa s) (r : Rel0 a b) (hO : LO D B cA s.heap a b fo H locs) (hl : lv_has ls 8 (lwL bs B k)) (hc : cells ≤ 281 + 600 * k + 8 * gR b 101 0) (hs : slots ≤ 8522 + 9600 * k + 134 * gR b 101 0) (kk : LNext p l e s m args below meth c D B cA bs k Q) : W p l e room_1 s m args below meth c H locs cells slots Q (F0 m 494 ls []) := by
  have hgw := fun (w : Cond) (h : w ∈ gwW) => S.2.2.2.2 w (List.mem_cons_of_mem _ h)
  have h0 := lv_at hl 0 rfl
  have h4 := lv_at hl 4 rfl
  have hk5 : k ≤ 511 := by have h1 := hX.2.2.2.1; have h2 := hX.2.2.2.2; omega
  have f10 : gR b 101 0 ≤ 10 := r.2.2.2.2.2
  obtain ⟨v, a2, ha, hbz⟩ := Eq0.both (Y := fun b => j_Mo_balance (xs (6 * k + 1)) b) r (fun b r => e_balance r (xs (6 * k + 1)))
  refine lv_aload_n S.1 S.2.1 dL_law_494 rfl (lv_at hl 1 rfl) ?_
  refine lw_ld S hX hO.S h0 h4 1 (by decide) rfl dL_law_495 dL_law_496 dL_law_498 dL_law_499 dL_law_500 ?_
  refine lc_calll (va_runV (As := [.int (xs (6 * k + 1))]) (rest := []) S (c_CW_balance l D (lcA B) (lad B) cA tb0 tb1 (xs (6 * k + 1)) a v a2 ha) (cwV 1 S.2.2.2.2 (gw_V w_3da2624c w_a9e0d54f w_fa8aff0f w_0fc29077 w_088b71cc) rfl rfl rfl (by decide +kernel) ⟨Nat.le_of_ble_eq_true rfl, Nat.le_of_ble_eq_true rfl⟩) (lc_pre hK hO) rfl rfl hl.1 rfl (lv_room (Nat.le_of_ble_eq_true rfl)) dL_law_501 ⟨show _ ≤ 601024 from by omega, show _ ≤ 7293034 from by omega⟩) hO (fun z H locs hO => ?_)
  obtain ⟨b2, hy, r2, hR⟩ := hbz z
  obtain ⟨w1, w2, w3⟩ := hR.sz
  have f11 : gR b2 101 0 ≤ 10 := r2.2.2.2.2.2
  refine lv_aload_n S.1 S.2.1 dL_law_504 rfl (lv_at hl 2 rfl) ?_
  refine lw_ld S hX hO.S h0 h4 1 (by decide) rfl dL_law_505 dL_law_506 dL_law_508 dL_law_509 dL_law_510 ?_
  refine lm_calll (va_runV (As := [.int (xs (6 * k + 1))]) (rest := [.long v]) S (c_Mo_balance l D (lmA B) (B + 269) cA (sR b 101 2 z) (xs (6 * k + 1)) v b2 hy) (cwV 1 S.2.2.2.2 (gw_V w_ee46a14d w_b1d61adb w_e5c5bb9c w_18f41a94 w_ccc1968f) rfl rfl rfl (by decide +kernel) ⟨Nat.le_of_ble_eq_true rfl, Nat.le_of_ble_eq_true rfl⟩) (lm_pre hK hO) rfl rfl hl.1 rfl (lv_room (Nat.le_of_ble_eq_true rfl)) dL_law_511 ⟨show _ ≤ 601024 from by omega, show _ ≤ 7293034 from by omega⟩) hO (fun H locs hO => ?_)
  refine lw_eql (tgt := 625) S dL_law_514 dL_law_515 (by decide) ?_
  exact kk a2 b2 fo H locs ls _ _ r2 hO hl (by omega) (by omega)
set_option maxHeartbeats 4000000 in
set_option maxRecDepth 100000 in
theorem law_9 {p : Program} {l : Launch} {e : Env} {s : State} {m : MethodId} {args : Array Value} {below : List Frame} {meth : Method} {c : Code} {H : Heap} {locs : List Loc} {cells slots : Nat} {Q : State → Prop} {ls : Array Slot} {bs L B k : Nat} {xs : Nat → Int32} {D : va_G} {cA : Nat → ClassId} {tb0 tb1 sa : Nat} {a b : CwS} {fo : Nat → Int64} (S : CallFix p m c cL_law 8 s args lvW RL) (hX : lwX bs L xs B k s) (hK : LK D B cA tb0 tb1 sa s) (r : Rel0 a b) (hO : LO D B cA s.heap a b fo H locs) (hl : lv_has ls 8 (lwL bs B k)) (hc : cells ≤ 281 + 600 * k + 8 * gR b 101 0) (hs : slots ≤ 8522 + 9600 * k + 134 * gR b 101 0) (kk : LNext p l e s m args below meth c D B cA bs k Q) : W p l e room_1 s m args below meth c H locs cells slots Q (F0 m 520 ls []) := by
  have hgw := fun (w : Cond) (h : w ∈ gwW) => S.2.2.2.2 w (List.mem_cons_of_mem _ h)
  have h0 := lv_at hl 0 rfl
  have h4 := lv_at hl 4 rfl
  have hk5 : k ≤ 511 := by have h1 := hX.2.2.2.1; have h2 := hX.2.2.2.2; omega
  have f10 : gR b 101 0 ≤ 10 := r.2.2.2.2.2
  obtain ⟨v, a2, ha, hbz⟩ := Eq0.both (Y := fun b => j_Mo_events  b) r (fun b r => e_events r )
  refine lv_aload_n S.1 S.2.1 dL_law_520 rfl (lv_at hl 1 rfl) ?_
  refine lc_calli (va_runV (As := []) (rest := []) S (c_CW_events l D (lcA B) (lad B) cA tb0 tb1  a v a2 ha) (cwV 0 S.2.2.2.2 (gw_V w_7bbf5152 w_ff231a8b w_2eafcef6 w_0fc29077 w_a6da2d5f) rfl rfl rfl (by decide +kernel) ⟨Nat.le_of_ble_eq_true rfl, Nat.le_of_ble_eq_true rfl⟩) (lc_pre hK hO) rfl rfl hl.1 rfl (lv_room (Nat.le_of_ble_eq_true rfl)) dL_law_521 ⟨show _ ≤ 601024 from by omega, show _ ≤ 7293034 from by omega⟩) hO (fun z H locs hO => ?_)
  obtain ⟨b2, hy, r2, hR⟩ := hbz z
  obtain ⟨w1, w2, w3⟩ := hR.sz
  have f11 : gR b2 101 0 ≤ 10 := r2.2.2.2.2.2
  refine lv_aload_n S.1 S.2.1 dL_law_524 rfl (lv_at hl 2 rfl) ?_
  refine lm_calli (va_runV (As := []) (rest := [.int v]) S (c_Mo_events l D (lmA B) (B + 269) cA (sR b 101 2 z)  v b2 hy) (cwV 0 S.2.2.2.2 (gw_V w_52b7097b w_c790e24a w_c2747eda w_18f41a94 w_dc18691b) rfl rfl rfl (by decide +kernel) ⟨Nat.le_of_ble_eq_true rfl, Nat.le_of_ble_eq_true rfl⟩) (lm_pre hK hO) rfl rfl hl.1 rfl (lv_room (Nat.le_of_ble_eq_true rfl)) dL_law_525 ⟨show _ ≤ 601024 from by omega, show _ ≤ 7293034 from by omega⟩) hO (fun H locs hO => ?_)
  refine lw_eqi S dL_law_528 (by decide) ?_
  exact kk a2 b2 fo H locs ls _ _ r2 hO hl (by omega) (by omega)
set_option maxHeartbeats 4000000 in
set_option maxRecDepth 100000 in
theorem law_10 {p : Program} {l : Launch} {e : Env} {s : State} {m : MethodId} {args : Array Value} {below : List Frame} {meth : Method} {c : Code} {H : Heap} {locs : List Loc} {cells slots : Nat} {Q : State → Prop} {ls : Array Slot} {bs L B k : Nat} {xs : Nat → Int32} {D : va_G} {cA : Nat → ClassId} {tb0 tb1 sa : Nat} {a b : CwS} {fo : Nat → Int64} (S : CallFix p m c cL_law 8 s args lvW RL) (hX : lwX bs L xs B k s) (hK : LK D B cA tb0 tb1 sa s) (r : Rel0 a b) (hO : LO D B cA s.heap a b fo H locs) (hl : lv_has ls 8 (lwL bs B k)) (hc : cells ≤ 281 + 600 * k + 8 * gR b 101 0) (hs : slots ≤ 8522 + 9600 * k + 134 * gR b 101 0) (kk : LNext p l e s m args below meth c D B cA bs k Q) : W p l e room_1 s m args below meth c H locs cells slots Q (F0 m 533 ls []) := by
  have hgw := fun (w : Cond) (h : w ∈ gwW) => S.2.2.2.2 w (List.mem_cons_of_mem _ h)
  have h0 := lv_at hl 0 rfl
  have h4 := lv_at hl 4 rfl
  have hk5 : k ≤ 511 := by have h1 := hX.2.2.2.1; have h2 := hX.2.2.2.2; omega
  have f10 : gR b 101 0 ≤ 10 := r.2.2.2.2.2
  obtain ⟨v, a2, ha, hbz⟩ := Eq0.both (Y := fun b => j_Mo_event (xs (6 * k + 1)) (xs (6 * k + 2)) b) r (fun b r => e_event r (xs (6 * k + 1)) (xs (6 * k + 2)))
  refine lv_aload_n S.1 S.2.1 dL_law_533 rfl (lv_at hl 1 rfl) ?_
  refine lw_ld S hX hO.S h0 h4 1 (by decide) rfl dL_law_534 dL_law_535 dL_law_537 dL_law_538 dL_law_539 ?_
  refine lw_ld S hX hO.S h0 h4 2 (by decide) rfl dL_law_540 dL_law_541 dL_law_543 dL_law_544 dL_law_545 ?_
  refine lc_calli (va_runV (As := [.int (xs (6 * k + 1)), .int (xs (6 * k + 2))]) (rest := []) S (c_CW_event l D (lcA B) (lad B) cA tb0 tb1 (xs (6 * k + 1)) (xs (6 * k + 2)) a v a2 ha) (cwV 2 S.2.2.2.2 (gw_V w_647f9c55 w_096d7c60 w_4af98628 w_0fc29077 w_799d75c0) rfl rfl rfl (by decide +kernel) ⟨Nat.le_of_ble_eq_true rfl, Nat.le_of_ble_eq_true rfl⟩) (lc_pre hK hO) rfl rfl hl.1 rfl (lv_room (Nat.le_of_ble_eq_true rfl)) dL_law_546 ⟨show _ ≤ 601024 from by omega, show _ ≤ 7293034 from by omega⟩) hO (fun z H locs hO => ?_)
  obtain ⟨b2, hy, r2, hR⟩ := hbz z
  obtain ⟨w1, w2, w3⟩ := hR.sz
  have f11 : gR b2 101 0 ≤ 10 := r2.2.2.2.2.2
  refine lv_aload_n S.1 S.2.1 dL_law_549 rfl (lv_at hl 2 rfl) ?_
  refine lw_ld S hX hO.S h0 h4 1 (by decide) rfl dL_law_550 dL_law_551 dL_law_553 dL_law_554 dL_law_555 ?_
  refine lw_ld S hX hO.S h0 h4 2 (by decide) rfl dL_law_556 dL_law_557 dL_law_559 dL_law_560 dL_law_561 ?_
  refine lm_calli (va_runV (As := [.int (xs (6 * k + 1)), .int (xs (6 * k + 2))]) (rest := [.int v]) S (c_Mo_event l D (lmA B) (B + 269) cA (sR b 101 2 z) (xs (6 * k + 1)) (xs (6 * k + 2)) v b2 hy) (cwV 2 S.2.2.2.2 (gw_V w_66d55fce w_49481160 w_0de5caea w_18f41a94 w_29ed42e5) rfl rfl rfl (by decide +kernel) ⟨Nat.le_of_ble_eq_true rfl, Nat.le_of_ble_eq_true rfl⟩) (lm_pre hK hO) rfl rfl hl.1 rfl (lv_room (Nat.le_of_ble_eq_true rfl)) dL_law_562 ⟨show _ ≤ 601024 from by omega, show _ ≤ 7293034 from by omega⟩) hO (fun H locs hO => ?_)
  refine lw_eqi S dL_law_565 (by decide) ?_
  exact kk a2 b2 fo H locs ls _ _ r2 hO hl (by omega) (by omega)
