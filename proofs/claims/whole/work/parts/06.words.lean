noncomputable def gwW : List Cond := lw_tbl.filter goodWord
noncomputable abbrev wv (y : MethodName) (c : ByteArray) (n : Nat) (r : Option FieldType) : List Cond := .code y c n r :: gwW
theorem gw_mem {w : Cond} (h : w ∈ lw_tbl) (hg : goodWord w = true) : w ∈ gwW := List.mem_filter.mpr ⟨h, hg⟩
theorem gw_at {w : Cond} (i : Nat) (h : lw_tbl[i]? = some w) (hg : goodWord w = true) : w ∈ gwW := gw_mem (List.mem_of_getElem? h) hg
theorem gw_sub {c0 : Cond} {ws : List Cond} (h : ∀ w ∈ ws, w ∈ gwW) : GoodIn (c0 :: gwW) ws := fun w hw => ⟨List.mem_cons_of_mem _ (h w hw), good_of_word (List.mem_filter.mp (h w hw)).2⟩
theorem gw_V {c0 : Cond} {own C : String} {idx L : Nat} {y : MethodName} {b : ByteArray} {r : Option FieldType} (h1 : Cond.methodLink own idx y ∈ gwW) (h2 : Cond.instanceMethod y ∈ gwW) (h3 : Cond.selects C y y ∈ gwW) (h4 : Cond.initialized C ∈ gwW) (h5 : Cond.code y b L r ∈ gwW) : GoodIn (c0 :: gwW) (wsV own idx C y (.code y b L r :: gwW)) := by
  refine gw_sub fun w hw => ?_
  simp only [wsV, List.cons_append, List.nil_append, List.mem_cons] at hw
  rcases hw with rfl | rfl | rfl | rfl | rfl | hw <;> assumption
theorem gw_S {c0 : Cond} {own : String} {idx L : Nat} {y : MethodName} {b : ByteArray} {r : Option FieldType} (h1 : Cond.methodLink own idx y ∈ gwW) (h2 : Cond.static y ∈ gwW) (h4 : Cond.initialized y.cls ∈ gwW) (h5 : Cond.code y b L r ∈ gwW) : GoodIn (c0 :: gwW) (va_wsS own idx y (.code y b L r :: gwW)) := by
  refine gw_sub fun w hw => ?_
  simp only [va_wsS, List.cons_append, List.nil_append, List.mem_cons] at hw
  rcases hw with rfl | rfl | rfl | rfl | hw <;> assumption
theorem gw_N {c0 : Cond} {L : Nat} {y : MethodName} {b : ByteArray} {r : Option FieldType} (h5 : Cond.code y b L r ∈ gwW) : GoodIn (c0 :: gwW) (.code y b L r :: gwW) := by
  refine gw_sub fun w hw => ?_
  simp only [List.mem_cons] at hw
  rcases hw with rfl | hw <;> assumption
theorem iwBeh : ∀ w ∈ u_ws RX0 TX0 3, w ∈ gwW := fun w h => gw_mem ((show ∀ w ∈ u_ws RX0 TX0 3, w ∈ lw_tbl by decide +kernel) w h) (List.all_eq_true.mp (show (u_ws RX0 TX0 3).all goodWord = true by decide +kernel) w h)
theorem iwBook : ∀ w ∈ u_ws RX1 TX1 2, w ∈ gwW := fun w h => gw_mem ((show ∀ w ∈ u_ws RX1 TX1 2, w ∈ lw_tbl by decide +kernel) w h) (List.all_eq_true.mp (show (u_ws RX1 TX1 2).all goodWord = true by decide +kernel) w h)
theorem iwFrame : ∀ w ∈ u_ws RX2 TX2 10, w ∈ gwW := fun w h => gw_mem ((show ∀ w ∈ u_ws RX2 TX2 10, w ∈ lw_tbl by decide +kernel) w h) (List.all_eq_true.mp (show (u_ws RX2 TX2 10).all goodWord = true by decide +kernel) w h)
theorem iwLedger : ∀ w ∈ u_ws RX3 TX3 8, w ∈ gwW := fun w h => gw_mem ((show ∀ w ∈ u_ws RX3 TX3 8, w ∈ lw_tbl by decide +kernel) w h) (List.all_eq_true.mp (show (u_ws RX3 TX3 8).all goodWord = true by decide +kernel) w h)
theorem iwPile : ∀ w ∈ u_ws RX4 TX4 4, w ∈ gwW := fun w h => gw_mem ((show ∀ w ∈ u_ws RX4 TX4 4, w ∈ lw_tbl by decide +kernel) w h) (List.all_eq_true.mp (show (u_ws RX4 TX4 4).all goodWord = true by decide +kernel) w h)
theorem iwRows : ∀ w ∈ u_ws RX5 TX5 3, w ∈ gwW := fun w h => gw_mem ((show ∀ w ∈ u_ws RX5 TX5 3, w ∈ lw_tbl by decide +kernel) w h) (List.all_eq_true.mp (show (u_ws RX5 TX5 3).all goodWord = true by decide +kernel) w h)
theorem iwWalk : ∀ w ∈ u_ws RX6 TX6 7, w ∈ gwW := fun w h => gw_mem ((show ∀ w ∈ u_ws RX6 TX6 7, w ∈ lw_tbl by decide +kernel) w h) (List.all_eq_true.mp (show (u_ws RX6 TX6 7).all goodWord = true by decide +kernel) w h)
theorem iwCW : ∀ w ∈ u_ws RX7 TX7 3, w ∈ gwW := fun w h => gw_mem ((show ∀ w ∈ u_ws RX7 TX7 3, w ∈ lw_tbl by decide +kernel) w h) (List.all_eq_true.mp (show (u_ws RX7 TX7 3).all goodWord = true by decide +kernel) w h)
theorem iwMF : ∀ w ∈ u_ws RX8 TX8 15, w ∈ gwW := fun w h => gw_mem ((show ∀ w ∈ u_ws RX8 TX8 15, w ∈ lw_tbl by decide +kernel) w h) (List.all_eq_true.mp (show (u_ws RX8 TX8 15).all goodWord = true by decide +kernel) w h)
theorem iwMo : ∀ w ∈ u_ws RX9 TX9 19, w ∈ gwW := fun w h => gw_mem ((show ∀ w ∈ u_ws RX9 TX9 19, w ∈ lw_tbl by decide +kernel) w h) (List.all_eq_true.mp (show (u_ws RX9 TX9 19).all goodWord = true by decide +kernel) w h)
set_option maxRecDepth 100000 in
theorem w_92e4e692 : Cond.fieldLink RX0 9 "CallWalker$Behaviour" "codes" "[I" ∈ gwW := gw_at 66 rfl rfl
set_option maxRecDepth 100000 in
theorem w_3596c244 : Cond.fieldLink RX0 15 "CallWalker$Behaviour" "numbers" "[I" ∈ gwW := gw_at 68 rfl rfl
set_option maxRecDepth 100000 in
theorem w_ac02c5f5 : Cond.fieldLink RX0 18 "CallWalker$Behaviour" "count" "I" ∈ gwW := gw_at 70 rfl rfl
set_option maxRecDepth 100000 in
theorem w_cc2d62dd : Cond.fieldLink RX1 11 "CallWalker$Book" "behaviours" "[LCallWalker$Behaviour;" ∈ gwW := gw_at 82 rfl rfl
set_option maxRecDepth 100000 in
theorem w_0675cc0a : Cond.fieldLink RX3 25 "CallWalker$Ledger" "eventCount" "I" ∈ gwW := gw_at 110 rfl rfl
set_option maxRecDepth 100000 in
theorem w_ba44a13a : Cond.fieldLink RX3 18 "CallWalker$Ledger" "eventContracts" "[I" ∈ gwW := gw_at 106 rfl rfl
set_option maxRecDepth 100000 in
theorem w_2b6c9491 : Cond.fieldLink RX3 22 "CallWalker$Ledger" "eventNumbers" "[J" ∈ gwW := gw_at 108 rfl rfl
set_option maxRecDepth 100000 in
theorem w_93fec1d4 : Cond.fieldLink RX3 15 "CallWalker$Ledger" "balances" "[J" ∈ gwW := gw_at 103 rfl rfl
set_option maxRecDepth 100000 in
theorem w_7e4a3a45 : Cond.constantLong RX3 42 (9223372036854775807) ∈ gwW := gw_at 498 rfl rfl
theorem w_a648c8f7 : Cond.native arraycopyName ∈ gwW := gw_mem (by decide +kernel) (by decide +kernel)
theorem w_410d49e2 : Cond.static arraycopyName ∈ gwW := gw_mem (by decide +kernel) (by decide +kernel)
set_option maxRecDepth 100000 in
theorem w_4260ffab : Cond.initialized "java/lang/System" ∈ gwW := gw_at 38 rfl rfl
set_option maxRecDepth 100000 in
theorem w_23a053dd : Cond.fieldLink RX3 9 "CallWalker$Ledger" "leaves" "[J" ∈ gwW := gw_at 100 rfl rfl
set_option maxRecDepth 100000 in
theorem w_f0b03c9d : Cond.fieldLink RX3 31 "CallWalker$Ledger" "keptLeaves" "[[J" ∈ gwW := gw_at 113 rfl rfl
set_option maxRecDepth 100000 in
theorem w_ded8991e : Cond.fieldLink RX3 34 "CallWalker$Ledger" "keptBalances" "[[J" ∈ gwW := gw_at 114 rfl rfl
set_option maxRecDepth 100000 in
theorem w_81616191 : Cond.fieldLink RX3 37 "CallWalker$Ledger" "keptCounts" "[I" ∈ gwW := gw_at 115 rfl rfl
set_option maxRecDepth 100000 in
theorem w_e7d42001 : Cond.methodLink RX3 44 arraycopyName ∈ gwW := gw_at 302 rfl rfl
set_option maxRecDepth 100000 in
theorem w_311ac5d4 : Cond.fieldLink RX4 19 "CallWalker$Pile" "height" "I" ∈ gwW := gw_at 155 rfl rfl
theorem w_80a2ec50 : Cond.static Lib.Math.max.name ∈ gwW := gw_mem (by decide +kernel) (by decide +kernel)
set_option maxRecDepth 100000 in
theorem w_868a9286 : Cond.initialized "java/lang/Math" ∈ gwW := gw_at 39 rfl rfl
theorem w_b6349a14 : Cond.code Lib.Math.max.name Lib.Math.max.code 2 (some .int) ∈ gwW := gw_mem (by decide +kernel) (by decide +kernel)
set_option maxRecDepth 100000 in
theorem w_c51cb73e : Cond.fieldLink RX4 23 "CallWalker$Pile" "heightBefore" "I" ∈ gwW := gw_at 157 rfl rfl
set_option maxRecDepth 100000 in
theorem w_f225a1c0 : Cond.methodLink RX4 26 Lib.Math.max.name ∈ gwW := gw_at 369 rfl rfl
set_option maxRecDepth 100000 in
theorem w_89a9db98 : Cond.fieldLink RX4 9 "CallWalker$Pile" "kinds" "[I" ∈ gwW := gw_at 153 rfl rfl
set_option maxRecDepth 100000 in
theorem w_c5b43c70 : Cond.fieldLink RX4 15 "CallWalker$Pile" "numbers" "[J" ∈ gwW := gw_at 154 rfl rfl
set_option maxRecDepth 100000 in
theorem w_548e850c : Cond.methodLink RX4 32 yX4_tookKind ∈ gwW := gw_at 385 rfl rfl
set_option maxRecDepth 100000 in
theorem w_72af167e : Cond.code yX4_tookKind cX4_tookKind 3 (some .int) ∈ gwW := gw_at 388 rfl rfl
set_option maxRecDepth 100000 in
theorem w_5c9fe01c : Cond.instanceMethod yX4_tookKind ∈ gwW := gw_at 386 rfl rfl
set_option maxRecDepth 100000 in
theorem w_ceab1f00 : Cond.selects RX4 yX4_tookKind yX4_tookKind ∈ gwW := gw_at 387 rfl rfl
set_option maxRecDepth 100000 in
theorem w_76c797a4 : Cond.initialized RX4 ∈ gwW := gw_at 35 rfl rfl
set_option maxRecDepth 100000 in
theorem w_5c3461e8 : Cond.methodLink RX4 36 yX4_put ∈ gwW := gw_at 316 rfl rfl
set_option maxRecDepth 100000 in
theorem w_54242bcb : Cond.code yX4_put cX4_put 4 (some .int) ∈ gwW := gw_at 319 rfl rfl
set_option maxRecDepth 100000 in
theorem w_d8d501aa : Cond.instanceMethod yX4_put ∈ gwW := gw_at 317 rfl rfl
set_option maxRecDepth 100000 in
theorem w_46b57ea6 : Cond.selects RX4 yX4_put yX4_put ∈ gwW := gw_at 318 rfl rfl
set_option maxRecDepth 100000 in
theorem w_f66d2fea : Cond.fieldLink RX2 18 "CallWalker$Frame" "handlers" "I" ∈ gwW := gw_at 189 rfl rfl
set_option maxRecDepth 100000 in
theorem w_69511b5c : Cond.fieldLink RX2 22 "CallWalker$Frame" "contract" "I" ∈ gwW := gw_at 192 rfl rfl
set_option maxRecDepth 100000 in
theorem w_e3b0c746 : Cond.fieldLink RX2 25 "CallWalker$Frame" "caller" "I" ∈ gwW := gw_at 194 rfl rfl
set_option maxRecDepth 100000 in
theorem w_85cdfb7b : Cond.fieldLink RX2 28 "CallWalker$Frame" "next" "I" ∈ gwW := gw_at 196 rfl rfl
set_option maxRecDepth 100000 in
theorem w_b790a6d0 : Cond.fieldLink RX2 31 "CallWalker$Frame" "stop" "I" ∈ gwW := gw_at 198 rfl rfl
set_option maxRecDepth 100000 in
theorem w_99489c43 : Cond.fieldLink RX2 34 "CallWalker$Frame" "behaviour" "LCallWalker$Behaviour;" ∈ gwW := gw_at 190 rfl rfl
set_option maxRecDepth 100000 in
theorem w_bb005698 : Cond.fieldLink RX2 41 "CallWalker$Frame" "pile" "LCallWalker$Pile;" ∈ gwW := gw_at 183 rfl rfl
set_option maxRecDepth 100000 in
theorem w_ac97c914 : Cond.fieldLink RX2 54 "CallWalker$Pile" "height" "I" ∈ gwW := gw_at 156 rfl rfl
set_option maxRecDepth 100000 in
theorem w_464bf442 : Cond.fieldLink RX2 57 "CallWalker$Behaviour" "count" "I" ∈ gwW := gw_at 72 rfl rfl
set_option maxRecDepth 100000 in
theorem w_73fb2ffd : Cond.methodLink RX2 62 yX0_hasPlace ∈ gwW := gw_at 405 rfl rfl
set_option maxRecDepth 100000 in
theorem w_185b0c4c : Cond.code yX0_hasPlace cX0_hasPlace 2 (some .boolean) ∈ gwW := gw_at 408 rfl rfl
set_option maxRecDepth 100000 in
theorem w_5a85a84b : Cond.instanceMethod yX0_hasPlace ∈ gwW := gw_at 406 rfl rfl
set_option maxRecDepth 100000 in
theorem w_16f77c3b : Cond.selects RX0 yX0_hasPlace yX0_hasPlace ∈ gwW := gw_at 407 rfl rfl
set_option maxRecDepth 100000 in
theorem w_644e7304 : Cond.initialized RX0 ∈ gwW := gw_at 31 rfl rfl
set_option maxRecDepth 100000 in
theorem w_a926dd89 : Cond.fieldLink RX2 9 "CallWalker$Frame" "handlerSteps" "[I" ∈ gwW := gw_at 187 rfl rfl
set_option maxRecDepth 100000 in
theorem w_26449b3e : Cond.fieldLink RX2 15 "CallWalker$Frame" "handlerHeights" "[I" ∈ gwW := gw_at 188 rfl rfl
theorem w_79b26afc : Cond.static Lib.Math.min.name ∈ gwW := gw_mem (by decide +kernel) (by decide +kernel)
theorem w_0fd793e2 : Cond.code Lib.Math.min.name Lib.Math.min.code 2 (some .int) ∈ gwW := gw_mem (by decide +kernel) (by decide +kernel)
set_option maxRecDepth 100000 in
theorem w_35bd17b4 : Cond.methodLink RX2 72 yX4_putNumber ∈ gwW := gw_at 352 rfl rfl
set_option maxRecDepth 100000 in
theorem w_03086df0 : Cond.code yX4_putNumber cX4_putNumber 3 (some .int) ∈ gwW := gw_at 315 rfl rfl
set_option maxRecDepth 100000 in
theorem w_34c9ad22 : Cond.instanceMethod yX4_putNumber ∈ gwW := gw_at 313 rfl rfl
set_option maxRecDepth 100000 in
theorem w_9e5e849e : Cond.selects RX4 yX4_putNumber yX4_putNumber ∈ gwW := gw_at 314 rfl rfl
set_option maxRecDepth 100000 in
theorem w_dbdba080 : Cond.methodLink RX2 66 Lib.Math.min.name ∈ gwW := gw_at 349 rfl rfl
set_option maxRecDepth 100000 in
theorem w_642cd4aa : Cond.fieldLink RX5 15 "CallWalker$Rows" "lengths" "[I" ∈ gwW := gw_at 175 rfl rfl
set_option maxRecDepth 100000 in
theorem w_8acbe09c : Cond.constantLong RX5 72 (12) ∈ gwW := gw_at 438 rfl rfl
set_option maxRecDepth 100000 in
theorem w_eb771c37 : Cond.methodLink RX5 43 yX5_lengthOf ∈ gwW := gw_at 434 rfl rfl
set_option maxRecDepth 100000 in
theorem w_69ff08de : Cond.code yX5_lengthOf cX5_lengthOf 3 (some .int) ∈ gwW := gw_at 437 rfl rfl
set_option maxRecDepth 100000 in
theorem w_47a11451 : Cond.instanceMethod yX5_lengthOf ∈ gwW := gw_at 436 rfl rfl
set_option maxRecDepth 100000 in
theorem w_e6548b4e : Cond.selects RX5 yX5_lengthOf yX5_lengthOf ∈ gwW := gw_at 9 rfl rfl
set_option maxRecDepth 100000 in
theorem w_8bdbd0d2 : Cond.initialized RX5 ∈ gwW := gw_at 36 rfl rfl
set_option maxRecDepth 100000 in
theorem w_3df059a5 : Cond.methodLink RX5 23 yX4_tookNumber ∈ gwW := gw_at 417 rfl rfl
set_option maxRecDepth 100000 in
theorem w_f9f5f760 : Cond.code yX4_tookNumber cX4_tookNumber 2 (some .boolean) ∈ gwW := gw_at 384 rfl rfl
set_option maxRecDepth 100000 in
theorem w_710a0455 : Cond.instanceMethod yX4_tookNumber ∈ gwW := gw_at 382 rfl rfl
set_option maxRecDepth 100000 in
theorem w_eea10879 : Cond.selects RX4 yX4_tookNumber yX4_tookNumber ∈ gwW := gw_at 383 rfl rfl
set_option maxRecDepth 100000 in
theorem w_6eb0be21 : Cond.methodLink RX5 29 yX4_took ∈ gwW := gw_at 418 rfl rfl
set_option maxRecDepth 100000 in
theorem w_c905c078 : Cond.code yX4_took cX4_took 3 (some .long) ∈ gwW := gw_at 392 rfl rfl
set_option maxRecDepth 100000 in
theorem w_e50f7684 : Cond.instanceMethod yX4_took ∈ gwW := gw_at 390 rfl rfl
set_option maxRecDepth 100000 in
theorem w_26b160a3 : Cond.selects RX4 yX4_took yX4_took ∈ gwW := gw_at 391 rfl rfl
set_option maxRecDepth 100000 in
theorem w_11bf5328 : Cond.methodLink RX5 35 yX4_freeRow ∈ gwW := gw_at 420 rfl rfl
set_option maxRecDepth 100000 in
theorem w_fd454fa2 : Cond.code yX4_freeRow cX4_freeRow 3 (some .int) ∈ gwW := gw_at 423 rfl rfl
set_option maxRecDepth 100000 in
theorem w_9d73c746 : Cond.instanceMethod yX4_freeRow ∈ gwW := gw_at 421 rfl rfl
set_option maxRecDepth 100000 in
theorem w_ac0097de : Cond.selects RX4 yX4_freeRow yX4_freeRow ∈ gwW := gw_at 422 rfl rfl
set_option maxRecDepth 100000 in
theorem w_4dc44149 : Cond.methodLink RX5 39 yX4_put ∈ gwW := gw_at 424 rfl rfl
set_option maxRecDepth 100000 in
theorem w_44bf1df9 : Cond.fieldLink RX5 9 "CallWalker$Rows" "elements" "[J" ∈ gwW := gw_at 174 rfl rfl
set_option maxRecDepth 100000 in
theorem w_b00e8dcd : Cond.fieldLink RX5 19 "CallWalker$Rows" "pile" "LCallWalker$Pile;" ∈ gwW := gw_at 173 rfl rfl
set_option maxRecDepth 100000 in
theorem w_395c51ba : Cond.constantLong RX5 33 (16) ∈ gwW := gw_at 419 rfl rfl
set_option maxRecDepth 100000 in
theorem w_ac50c630 : Cond.methodLink RX5 47 yX5_placeOf ∈ gwW := gw_at 439 rfl rfl
set_option maxRecDepth 100000 in
theorem w_5ae13e92 : Cond.code yX5_placeOf cX5_placeOf 5 (some .int) ∈ gwW := gw_at 442 rfl rfl
set_option maxRecDepth 100000 in
theorem w_512321e3 : Cond.instanceMethod yX5_placeOf ∈ gwW := gw_at 441 rfl rfl
set_option maxRecDepth 100000 in
theorem w_a4eb41e5 : Cond.selects RX5 yX5_placeOf yX5_placeOf ∈ gwW := gw_at 10 rfl rfl
set_option maxRecDepth 100000 in
theorem w_2284ff03 : Cond.methodLink RX5 51 arraycopyName ∈ gwW := gw_at 460 rfl rfl
set_option maxRecDepth 100000 in
theorem w_cdb175cb : Cond.methodLink RX5 57 yX4_tookKind ∈ gwW := gw_at 429 rfl rfl
set_option maxRecDepth 100000 in
theorem w_c19e7088 : Cond.methodLink RX5 61 yX5_elementFailure ∈ gwW := gw_at 430 rfl rfl
set_option maxRecDepth 100000 in
theorem w_cb51ae7a : Cond.code yX5_elementFailure cX5_elementFailure 7 (some .int) ∈ gwW := gw_at 433 rfl rfl
set_option maxRecDepth 100000 in
theorem w_09edf06d : Cond.instanceMethod yX5_elementFailure ∈ gwW := gw_at 432 rfl rfl
set_option maxRecDepth 100000 in
theorem w_5790b627 : Cond.selects RX5 yX5_elementFailure yX5_elementFailure ∈ gwW := gw_at 8 rfl rfl
set_option maxRecDepth 100000 in
theorem w_81d1523b : Cond.methodLink RX5 65 yX4_putNumber ∈ gwW := gw_at 443 rfl rfl
set_option maxRecDepth 100000 in
theorem w_4a2bada4 : Cond.methodLink RX5 68 yX5_hasRange ∈ gwW := gw_at 456 rfl rfl
set_option maxRecDepth 100000 in
theorem w_0e5f6c57 : Cond.code yX5_hasRange cX5_hasRange 8 (some .boolean) ∈ gwW := gw_at 459 rfl rfl
set_option maxRecDepth 100000 in
theorem w_0b3e77d4 : Cond.instanceMethod yX5_hasRange ∈ gwW := gw_at 458 rfl rfl
set_option maxRecDepth 100000 in
theorem w_86ede6f9 : Cond.selects RX5 yX5_hasRange yX5_hasRange ∈ gwW := gw_at 11 rfl rfl
set_option maxRecDepth 100000 in
theorem w_375a58ab : Cond.methodLink RX7 49 yX7_isContract ∈ gwW := gw_at 262 rfl rfl
set_option maxRecDepth 100000 in
theorem w_9bb5fda8 : Cond.code yX7_isContract cX7_isContract 1 (some .boolean) ∈ gwW := gw_at 264 rfl rfl
set_option maxRecDepth 100000 in
theorem w_6f490791 : Cond.static yX7_isContract ∈ gwW := gw_at 263 rfl rfl
set_option maxRecDepth 100000 in
theorem w_0fc29077 : Cond.initialized RX7 ∈ gwW := gw_at 29 rfl rfl
set_option maxRecDepth 100000 in
theorem w_b5052a64 : Cond.constantLong RX7 98 (-1) ∈ gwW := gw_at 525 rfl rfl
set_option maxRecDepth 100000 in
theorem w_1cc8c3fa : Cond.constantLong RX7 102 (-9223372036854775808) ∈ gwW := gw_at 526 rfl rfl
set_option maxRecDepth 100000 in
theorem w_794f36c5 : Cond.methodLink RX6 77 yX3_keep ∈ gwW := gw_at 298 rfl rfl
set_option maxRecDepth 100000 in
theorem w_9f2ad499 : Cond.code yX3_keep cX3_keep 2 none ∈ gwW := gw_at 301 rfl rfl
set_option maxRecDepth 100000 in
theorem w_0811af9b : Cond.instanceMethod yX3_keep ∈ gwW := gw_at 299 rfl rfl
set_option maxRecDepth 100000 in
theorem w_cac76b74 : Cond.selects RX3 yX3_keep yX3_keep ∈ gwW := gw_at 300 rfl rfl
set_option maxRecDepth 100000 in
theorem w_7f12e8e2 : Cond.initialized RX3 ∈ gwW := gw_at 32 rfl rfl
set_option maxRecDepth 100000 in
theorem w_73c44b14 : Cond.methodLink RX6 81 yX2_begin ∈ gwW := gw_at 305 rfl rfl
set_option maxRecDepth 100000 in
theorem w_8869f1ce : Cond.code yX2_begin cX2_begin 5 none ∈ gwW := gw_at 308 rfl rfl
set_option maxRecDepth 100000 in
theorem w_05f823c4 : Cond.instanceMethod yX2_begin ∈ gwW := gw_at 306 rfl rfl
set_option maxRecDepth 100000 in
theorem w_0b708e23 : Cond.selects RX2 yX2_begin yX2_begin ∈ gwW := gw_at 307 rfl rfl
set_option maxRecDepth 100000 in
theorem w_aeeb22ff : Cond.initialized RX2 ∈ gwW := gw_at 34 rfl rfl
set_option maxRecDepth 100000 in
theorem w_4a27d2bd : Cond.fieldLink RX6 11 "CallWalker$Walk" "frames" "[LCallWalker$Frame;" ∈ gwW := gw_at 223 rfl rfl
set_option maxRecDepth 100000 in
theorem w_b50feff6 : Cond.fieldLink RX6 17 "CallWalker$Walk" "counts" "[I" ∈ gwW := gw_at 224 rfl rfl
set_option maxRecDepth 100000 in
theorem w_b62a6067 : Cond.fieldLink RX6 21 "CallWalker$Walk" "depth" "I" ∈ gwW := gw_at 226 rfl rfl
set_option maxRecDepth 100000 in
theorem w_4f54f888 : Cond.fieldLink RX6 36 "CallWalker$Walk" "ledger" "LCallWalker$Ledger;" ∈ gwW := gw_at 222 rfl rfl
set_option maxRecDepth 100000 in
theorem w_adbda9fd : Cond.methodLink RX6 85 Lib.Math.max.name ∈ gwW := gw_at 309 rfl rfl
set_option maxRecDepth 100000 in
theorem w_8fddbe94 : Cond.methodLink RX6 66 yX4_putNumber ∈ gwW := gw_at 312 rfl rfl
set_option maxRecDepth 100000 in
theorem w_0e7c3207 : Cond.fieldLink RX6 28 "CallWalker$Walk" "result" "J" ∈ gwW := gw_at 228 rfl rfl
set_option maxRecDepth 100000 in
theorem w_115d9ac3 : Cond.fieldLink RX6 62 "CallWalker$Frame" "pile" "LCallWalker$Pile;" ∈ gwW := gw_at 184 rfl rfl
set_option maxRecDepth 100000 in
theorem w_fabbcafd : Cond.methodLink RX6 131 yX3_restore ∈ gwW := gw_at 341 rfl rfl
set_option maxRecDepth 100000 in
theorem w_d374c02e : Cond.code yX3_restore cX3_restore 2 none ∈ gwW := gw_at 344 rfl rfl
set_option maxRecDepth 100000 in
theorem w_f7b23bc1 : Cond.instanceMethod yX3_restore ∈ gwW := gw_at 342 rfl rfl
set_option maxRecDepth 100000 in
theorem w_84252a1b : Cond.selects RX3 yX3_restore yX3_restore ∈ gwW := gw_at 343 rfl rfl
set_option maxRecDepth 100000 in
theorem w_79ee79a2 : Cond.methodLink RX6 127 yX2_handle ∈ gwW := gw_at 345 rfl rfl
set_option maxRecDepth 100000 in
theorem w_65b55aab : Cond.code yX2_handle cX2_handle 2 (some .boolean) ∈ gwW := gw_at 348 rfl rfl
set_option maxRecDepth 100000 in
theorem w_c19dedaa : Cond.instanceMethod yX2_handle ∈ gwW := gw_at 346 rfl rfl
set_option maxRecDepth 100000 in
theorem w_8f92d28b : Cond.selects RX2 yX2_handle yX2_handle ∈ gwW := gw_at 347 rfl rfl
set_option maxRecDepth 100000 in
theorem w_6a1a8a51 : Cond.methodLink RX6 124 yX6_undoTo ∈ gwW := gw_at 337 rfl rfl
set_option maxRecDepth 100000 in
theorem w_7c6d5d6e : Cond.code yX6_undoTo cX6_undoTo 2 none ∈ gwW := gw_at 340 rfl rfl
set_option maxRecDepth 100000 in
theorem w_e6ecb092 : Cond.instanceMethod yX6_undoTo ∈ gwW := gw_at 339 rfl rfl
set_option maxRecDepth 100000 in
theorem w_513f21f0 : Cond.selects RX6 yX6_undoTo yX6_undoTo ∈ gwW := gw_at 4 rfl rfl
set_option maxRecDepth 100000 in
theorem w_f8f5642f : Cond.initialized RX6 ∈ gwW := gw_at 33 rfl rfl
set_option maxRecDepth 100000 in
theorem w_166650d6 : Cond.fieldLink RX6 25 "CallWalker$Walk" "answer" "I" ∈ gwW := gw_at 227 rfl rfl
set_option maxRecDepth 100000 in
theorem w_3799d173 : Cond.fieldLink RX6 214 "CallWalker$Frame" "contract" "I" ∈ gwW := gw_at 193 rfl rfl
set_option maxRecDepth 100000 in
theorem w_f9d22def : Cond.code yX7_isBehaviour cX7_isBehaviour 2 (some .boolean) ∈ gwW := gw_at 261 rfl rfl
set_option maxRecDepth 100000 in
theorem w_03540a48 : Cond.static yX7_isBehaviour ∈ gwW := gw_at 260 rfl rfl
set_option maxRecDepth 100000 in
theorem w_30ec52e4 : Cond.methodLink RX6 285 yX3_canMove ∈ gwW := gw_at 494 rfl rfl
set_option maxRecDepth 100000 in
theorem w_1585a2cb : Cond.code yX3_canMove cX3_canMove 5 (some .boolean) ∈ gwW := gw_at 497 rfl rfl
set_option maxRecDepth 100000 in
theorem w_a386f5ee : Cond.instanceMethod yX3_canMove ∈ gwW := gw_at 495 rfl rfl
set_option maxRecDepth 100000 in
theorem w_816675ed : Cond.selects RX3 yX3_canMove yX3_canMove ∈ gwW := gw_at 496 rfl rfl
set_option maxRecDepth 100000 in
theorem w_a45c4b15 : Cond.methodLink RX6 282 yX6_isUnderWay ∈ gwW := gw_at 490 rfl rfl
set_option maxRecDepth 100000 in
theorem w_a9aa258d : Cond.code yX6_isUnderWay cX6_isUnderWay 3 (some .boolean) ∈ gwW := gw_at 493 rfl rfl
set_option maxRecDepth 100000 in
theorem w_1b280cd3 : Cond.instanceMethod yX6_isUnderWay ∈ gwW := gw_at 492 rfl rfl
set_option maxRecDepth 100000 in
theorem w_e5ab82b5 : Cond.selects RX6 yX6_isUnderWay yX6_isUnderWay ∈ gwW := gw_at 16 rfl rfl
set_option maxRecDepth 100000 in
theorem w_6dd6e69a : Cond.fieldLink RX6 32 "CallWalker$Walk" "book" "LCallWalker$Book;" ∈ gwW := gw_at 221 rfl rfl
set_option maxRecDepth 100000 in
theorem w_112bdd1c : Cond.fieldLink RX6 210 "CallWalker$Ledger" "balances" "[J" ∈ gwW := gw_at 105 rfl rfl
set_option maxRecDepth 100000 in
theorem w_93e070e1 : Cond.fieldLink RX6 278 "CallWalker$Book" "guarded" "[Z" ∈ gwW := gw_at 86 rfl rfl
set_option maxRecDepth 100000 in
theorem w_778875df : Cond.code yX7_isLeaf cX7_isLeaf 1 (some .boolean) ∈ gwW := gw_at 376 rfl rfl
set_option maxRecDepth 100000 in
theorem w_45a6a7ae : Cond.static yX7_isLeaf ∈ gwW := gw_at 375 rfl rfl
set_option maxRecDepth 100000 in
theorem w_d39a3034 : Cond.fieldLink RX6 227 "CallWalker$Ledger" "leaves" "[J" ∈ gwW := gw_at 101 rfl rfl
set_option maxRecDepth 100000 in
theorem w_1588eb10 : Cond.methodLink RX6 230 yX4_tookNumber ∈ gwW := gw_at 381 rfl rfl
set_option maxRecDepth 100000 in
theorem w_93fed6db : Cond.methodLink RX6 233 yX4_took ∈ gwW := gw_at 389 rfl rfl
set_option maxRecDepth 100000 in
theorem w_46dcffd2 : Cond.methodLink RX6 237 yX4_tookKind ∈ gwW := gw_at 396 rfl rfl
set_option maxRecDepth 100000 in
theorem w_085b0eb2 : Cond.methodLink RX6 187 yX4_put ∈ gwW := gw_at 397 rfl rfl
set_option maxRecDepth 100000 in
theorem w_4da7ad3a : Cond.code yX7_sumFits cX7_sumFits 6 (some .boolean) ∈ gwW := gw_at 518 rfl rfl
set_option maxRecDepth 100000 in
theorem w_0bad5949 : Cond.static yX7_sumFits ∈ gwW := gw_at 517 rfl rfl
set_option maxRecDepth 100000 in
theorem w_ef9c150f : Cond.code yX7_differenceFits cX7_differenceFits 6 (some .boolean) ∈ gwW := gw_at 521 rfl rfl
set_option maxRecDepth 100000 in
theorem w_21831aed : Cond.static yX7_differenceFits ∈ gwW := gw_at 520 rfl rfl
set_option maxRecDepth 100000 in
theorem w_d70717ca : Cond.code yX7_productFits cX7_productFits 4 (some .boolean) ∈ gwW := gw_at 524 rfl rfl
set_option maxRecDepth 100000 in
theorem w_3fd43fcb : Cond.static yX7_productFits ∈ gwW := gw_at 523 rfl rfl
set_option maxRecDepth 100000 in
theorem w_aec1e59d : Cond.methodLink RX6 250 yX0_hasPlace ∈ gwW := gw_at 412 rfl rfl
set_option maxRecDepth 100000 in
theorem w_9d79fd68 : Cond.methodLink RX6 161 yX2_jump ∈ gwW := gw_at 401 rfl rfl
set_option maxRecDepth 100000 in
theorem w_a67431f2 : Cond.code yX2_jump cX2_jump 2 (some .int) ∈ gwW := gw_at 404 rfl rfl
set_option maxRecDepth 100000 in
theorem w_a6d3ff5e : Cond.instanceMethod yX2_jump ∈ gwW := gw_at 402 rfl rfl
set_option maxRecDepth 100000 in
theorem w_b84d1b6c : Cond.selects RX2 yX2_jump yX2_jump ∈ gwW := gw_at 403 rfl rfl
set_option maxRecDepth 100000 in
theorem w_9f87e21a : Cond.fieldLink RX6 108 "CallWalker$Frame" "behaviour" "LCallWalker$Behaviour;" ∈ gwW := gw_at 191 rfl rfl
set_option maxRecDepth 100000 in
theorem w_38165e87 : Cond.methodLink RX6 95 yX6_endWell ∈ gwW := gw_at 329 rfl rfl
set_option maxRecDepth 100000 in
theorem w_1b9bef71 : Cond.code yX6_endWell cX6_endWell 3 none ∈ gwW := gw_at 332 rfl rfl
set_option maxRecDepth 100000 in
theorem w_d970e0b9 : Cond.instanceMethod yX6_endWell ∈ gwW := gw_at 331 rfl rfl
set_option maxRecDepth 100000 in
theorem w_f7c4a27b : Cond.selects RX6 yX6_endWell yX6_endWell ∈ gwW := gw_at 2 rfl rfl
set_option maxRecDepth 100000 in
theorem w_66c7743a : Cond.methodLink RX6 253 yX3_addEvent ∈ gwW := gw_at 477 rfl rfl
set_option maxRecDepth 100000 in
theorem w_3ffdc574 : Cond.code yX3_addEvent cX3_addEvent 4 (some .boolean) ∈ gwW := gw_at 480 rfl rfl
set_option maxRecDepth 100000 in
theorem w_c763f9a9 : Cond.instanceMethod yX3_addEvent ∈ gwW := gw_at 478 rfl rfl
set_option maxRecDepth 100000 in
theorem w_9539a923 : Cond.selects RX3 yX3_addEvent yX3_addEvent ∈ gwW := gw_at 479 rfl rfl
set_option maxRecDepth 100000 in
theorem w_8005dff5 : Cond.methodLink RX6 257 yX6_callFailure ∈ gwW := gw_at 485 rfl rfl
set_option maxRecDepth 100000 in
theorem w_5bafc6ba : Cond.code yX6_callFailure cX6_callFailure 5 (some .int) ∈ gwW := gw_at 488 rfl rfl
set_option maxRecDepth 100000 in
theorem w_c3c6afd2 : Cond.instanceMethod yX6_callFailure ∈ gwW := gw_at 487 rfl rfl
set_option maxRecDepth 100000 in
theorem w_8912cd72 : Cond.selects RX6 yX6_callFailure yX6_callFailure ∈ gwW := gw_at 15 rfl rfl
theorem w_07670a37 : Cond.static Lib.MathLoose.min_long.x ∈ gwW := gw_mem (by decide +kernel) (by decide +kernel)
theorem w_c0acf8a6 : Cond.code Lib.MathLoose.min_long.x Lib.MathLoose.min_long.code 4 (some .long) ∈ gwW := gw_mem (by decide +kernel) (by decide +kernel)
theorem w_8f24d854 : Cond.static Lib.MathLoose.max_long.x ∈ gwW := gw_mem (by decide +kernel) (by decide +kernel)
theorem w_ada86a80 : Cond.code Lib.MathLoose.max_long.x Lib.MathLoose.max_long.code 4 (some .long) ∈ gwW := gw_mem (by decide +kernel) (by decide +kernel)
set_option maxRecDepth 100000 in
theorem w_f637e4e7 : Cond.methodLink RX6 54 yX1_find ∈ gwW := gw_at 293 rfl rfl
set_option maxRecDepth 100000 in
theorem w_9a4e77f1 : Cond.code yX1_find cX1_find 3 (some (.object "CallWalker$Behaviour")) ∈ gwW := gw_at 268 rfl rfl
set_option maxRecDepth 100000 in
theorem w_e1327d62 : Cond.instanceMethod yX1_find ∈ gwW := gw_at 266 rfl rfl
set_option maxRecDepth 100000 in
theorem w_a3354a1d : Cond.selects RX1 yX1_find yX1_find ∈ gwW := gw_at 267 rfl rfl
set_option maxRecDepth 100000 in
theorem w_df4c496e : Cond.initialized RX1 ∈ gwW := gw_at 30 rfl rfl
set_option maxRecDepth 100000 in
theorem w_5cb88b1c : Cond.methodLink RX6 58 yX6_open ∈ gwW := gw_at 294 rfl rfl
set_option maxRecDepth 100000 in
theorem w_18b9acd0 : Cond.code yX6_open cX6_open 6 (some (.object "CallWalker$Frame")) ∈ gwW := gw_at 297 rfl rfl
set_option maxRecDepth 100000 in
theorem w_50db3de5 : Cond.instanceMethod yX6_open ∈ gwW := gw_at 296 rfl rfl
set_option maxRecDepth 100000 in
theorem w_c63fa8c6 : Cond.selects RX6 yX6_open yX6_open ∈ gwW := gw_at 0 rfl rfl
set_option maxRecDepth 100000 in
theorem w_541fbdc4 : Cond.methodLink RX6 267 yX3_move ∈ gwW := gw_at 505 rfl rfl
set_option maxRecDepth 100000 in
theorem w_2bb9baac : Cond.code yX3_move cX3_move 5 none ∈ gwW := gw_at 508 rfl rfl
set_option maxRecDepth 100000 in
theorem w_8f3cd1e8 : Cond.instanceMethod yX3_move ∈ gwW := gw_at 506 rfl rfl
set_option maxRecDepth 100000 in
theorem w_b9687fe1 : Cond.selects RX3 yX3_move yX3_move ∈ gwW := gw_at 507 rfl rfl
set_option maxRecDepth 100000 in
theorem w_6264dd0f : Cond.methodLink RX6 271 yX5_putCopy ∈ gwW := gw_at 509 rfl rfl
set_option maxRecDepth 100000 in
theorem w_5629de93 : Cond.code yX5_putCopy cX5_putCopy 7 (some .int) ∈ gwW := gw_at 512 rfl rfl
set_option maxRecDepth 100000 in
theorem w_db39b8ad : Cond.instanceMethod yX5_putCopy ∈ gwW := gw_at 510 rfl rfl
set_option maxRecDepth 100000 in
theorem w_341fb3ad : Cond.selects RX5 yX5_putCopy yX5_putCopy ∈ gwW := gw_at 511 rfl rfl
set_option maxRecDepth 100000 in
theorem w_1602bc2a : Cond.fieldLink RX6 99 "CallWalker$Frame" "stop" "I" ∈ gwW := gw_at 199 rfl rfl
set_option maxRecDepth 100000 in
theorem w_e788c032 : Cond.fieldLink RX6 168 "CallWalker$Frame" "rows" "LCallWalker$Rows;" ∈ gwW := gw_at 186 rfl rfl
set_option maxRecDepth 100000 in
theorem w_6fae0919 : Cond.methodLink RX6 261 Lib.MathLoose.min_long.x ∈ gwW := gw_at 499 rfl rfl
set_option maxRecDepth 100000 in
theorem w_d7508f55 : Cond.methodLink RX6 265 Lib.MathLoose.max_long.x ∈ gwW := gw_at 502 rfl rfl
set_option maxRecDepth 100000 in
theorem w_708fd490 : Cond.methodLink RX6 140 yX4_allows ∈ gwW := gw_at 361 rfl rfl
set_option maxRecDepth 100000 in
theorem w_c208274f : Cond.code yX4_allows cX4_allows 3 (some .boolean) ∈ gwW := gw_at 364 rfl rfl
set_option maxRecDepth 100000 in
theorem w_74cf187d : Cond.instanceMethod yX4_allows ∈ gwW := gw_at 362 rfl rfl
set_option maxRecDepth 100000 in
theorem w_b42b31d3 : Cond.selects RX4 yX4_allows yX4_allows ∈ gwW := gw_at 363 rfl rfl
set_option maxRecDepth 100000 in
theorem w_ad0f8c7c : Cond.methodLink RX6 144 yX4_take ∈ gwW := gw_at 365 rfl rfl
set_option maxRecDepth 100000 in
theorem w_005c6265 : Cond.code yX4_take cX4_take 2 none ∈ gwW := gw_at 368 rfl rfl
set_option maxRecDepth 100000 in
theorem w_0caad721 : Cond.instanceMethod yX4_take ∈ gwW := gw_at 366 rfl rfl
set_option maxRecDepth 100000 in
theorem w_9eaa4874 : Cond.selects RX4 yX4_take yX4_take ∈ gwW := gw_at 367 rfl rfl
set_option maxRecDepth 100000 in
theorem w_9fa06c02 : Cond.methodLink RX6 147 yX6_putLeaf ∈ gwW := gw_at 370 rfl rfl
set_option maxRecDepth 100000 in
theorem w_02b90b82 : Cond.code yX6_putLeaf cX6_putLeaf 3 (some .int) ∈ gwW := gw_at 373 rfl rfl
set_option maxRecDepth 100000 in
theorem w_9c3c8ed7 : Cond.instanceMethod yX6_putLeaf ∈ gwW := gw_at 372 rfl rfl
set_option maxRecDepth 100000 in
theorem w_17da279c : Cond.selects RX6 yX6_putLeaf yX6_putLeaf ∈ gwW := gw_at 6 rfl rfl
set_option maxRecDepth 100000 in
theorem w_be1a65f2 : Cond.methodLink RX6 151 yX6_changeLeaf ∈ gwW := gw_at 377 rfl rfl
set_option maxRecDepth 100000 in
theorem w_3931b0d4 : Cond.code yX6_changeLeaf cX6_changeLeaf 3 (some .int) ∈ gwW := gw_at 380 rfl rfl
set_option maxRecDepth 100000 in
theorem w_e7624642 : Cond.instanceMethod yX6_changeLeaf ∈ gwW := gw_at 379 rfl rfl
set_option maxRecDepth 100000 in
theorem w_f9604c87 : Cond.selects RX6 yX6_changeLeaf yX6_changeLeaf ∈ gwW := gw_at 7 rfl rfl
set_option maxRecDepth 100000 in
theorem w_0c84cd35 : Cond.methodLink RX6 154 yX6_putTwice ∈ gwW := gw_at 393 rfl rfl
set_option maxRecDepth 100000 in
theorem w_f33bdb01 : Cond.code yX6_putTwice cX6_putTwice 4 (some .int) ∈ gwW := gw_at 395 rfl rfl
set_option maxRecDepth 100000 in
theorem w_bdfe83f6 : Cond.static yX6_putTwice ∈ gwW := gw_at 394 rfl rfl
set_option maxRecDepth 100000 in
theorem w_8e01b512 : Cond.methodLink RX6 158 yX6_putSwapped ∈ gwW := gw_at 398 rfl rfl
set_option maxRecDepth 100000 in
theorem w_e53ca726 : Cond.code yX6_putSwapped cX6_putSwapped 7 (some .int) ∈ gwW := gw_at 400 rfl rfl
set_option maxRecDepth 100000 in
theorem w_9b4eed00 : Cond.static yX6_putSwapped ∈ gwW := gw_at 399 rfl rfl
set_option maxRecDepth 100000 in
theorem w_43ca34e5 : Cond.methodLink RX6 165 yX6_jumpIfZero ∈ gwW := gw_at 409 rfl rfl
set_option maxRecDepth 100000 in
theorem w_e2619c40 : Cond.code yX6_jumpIfZero cX6_jumpIfZero 2 (some .int) ∈ gwW := gw_at 411 rfl rfl
set_option maxRecDepth 100000 in
theorem w_e97167b8 : Cond.static yX6_jumpIfZero ∈ gwW := gw_at 410 rfl rfl
set_option maxRecDepth 100000 in
theorem w_24f300af : Cond.methodLink RX6 172 yX5_putNew ∈ gwW := gw_at 413 rfl rfl
set_option maxRecDepth 100000 in
theorem w_c738b028 : Cond.code yX5_putNew cX5_putNew 6 (some .int) ∈ gwW := gw_at 416 rfl rfl
set_option maxRecDepth 100000 in
theorem w_a60ccbfb : Cond.instanceMethod yX5_putNew ∈ gwW := gw_at 414 rfl rfl
set_option maxRecDepth 100000 in
theorem w_98905c69 : Cond.selects RX5 yX5_putNew yX5_putNew ∈ gwW := gw_at 415 rfl rfl
set_option maxRecDepth 100000 in
theorem w_dd8cd33b : Cond.methodLink RX6 177 yX5_putElement ∈ gwW := gw_at 425 rfl rfl
set_option maxRecDepth 100000 in
theorem w_4d7e5faf : Cond.code yX5_putElement cX5_putElement 7 (some .int) ∈ gwW := gw_at 428 rfl rfl
set_option maxRecDepth 100000 in
theorem w_6b278a84 : Cond.instanceMethod yX5_putElement ∈ gwW := gw_at 426 rfl rfl
set_option maxRecDepth 100000 in
theorem w_2e944d78 : Cond.selects RX5 yX5_putElement yX5_putElement ∈ gwW := gw_at 427 rfl rfl
set_option maxRecDepth 100000 in
theorem w_810b722e : Cond.methodLink RX6 180 yX5_changeElement ∈ gwW := gw_at 444 rfl rfl
set_option maxRecDepth 100000 in
theorem w_c81fd045 : Cond.code yX5_changeElement cX5_changeElement 9 (some .int) ∈ gwW := gw_at 447 rfl rfl
set_option maxRecDepth 100000 in
theorem w_7fed198a : Cond.instanceMethod yX5_changeElement ∈ gwW := gw_at 445 rfl rfl
set_option maxRecDepth 100000 in
theorem w_e57cdd68 : Cond.selects RX5 yX5_changeElement yX5_changeElement ∈ gwW := gw_at 446 rfl rfl
set_option maxRecDepth 100000 in
theorem w_c261932e : Cond.methodLink RX6 183 yX5_putLength ∈ gwW := gw_at 448 rfl rfl
set_option maxRecDepth 100000 in
theorem w_4a66d9a4 : Cond.code yX5_putLength cX5_putLength 1 (some .int) ∈ gwW := gw_at 451 rfl rfl
set_option maxRecDepth 100000 in
theorem w_edbe232a : Cond.instanceMethod yX5_putLength ∈ gwW := gw_at 449 rfl rfl
set_option maxRecDepth 100000 in
theorem w_43a81a0f : Cond.selects RX5 yX5_putLength yX5_putLength ∈ gwW := gw_at 450 rfl rfl
set_option maxRecDepth 100000 in
theorem w_1687bed3 : Cond.methodLink RX6 191 yX5_copyElements ∈ gwW := gw_at 452 rfl rfl
set_option maxRecDepth 100000 in
theorem w_b269f87b : Cond.code yX5_copyElements cX5_copyElements 11 (some .int) ∈ gwW := gw_at 455 rfl rfl
set_option maxRecDepth 100000 in
theorem w_2ca43a6e : Cond.instanceMethod yX5_copyElements ∈ gwW := gw_at 453 rfl rfl
set_option maxRecDepth 100000 in
theorem w_e855bd6f : Cond.selects RX5 yX5_copyElements yX5_copyElements ∈ gwW := gw_at 454 rfl rfl
set_option maxRecDepth 100000 in
theorem w_8c4e9d1d : Cond.methodLink RX6 194 yX2_addHandler ∈ gwW := gw_at 461 rfl rfl
set_option maxRecDepth 100000 in
theorem w_3a4480d8 : Cond.code yX2_addHandler cX2_addHandler 2 (some .int) ∈ gwW := gw_at 464 rfl rfl
set_option maxRecDepth 100000 in
theorem w_ca9fc9a0 : Cond.instanceMethod yX2_addHandler ∈ gwW := gw_at 462 rfl rfl
set_option maxRecDepth 100000 in
theorem w_36f2d12d : Cond.selects RX2 yX2_addHandler yX2_addHandler ∈ gwW := gw_at 463 rfl rfl
set_option maxRecDepth 100000 in
theorem w_b14f5273 : Cond.methodLink RX6 197 yX2_dropHandler ∈ gwW := gw_at 465 rfl rfl
set_option maxRecDepth 100000 in
theorem w_3cc04f3d : Cond.code yX2_dropHandler cX2_dropHandler 1 (some .int) ∈ gwW := gw_at 468 rfl rfl
set_option maxRecDepth 100000 in
theorem w_dbb05d45 : Cond.instanceMethod yX2_dropHandler ∈ gwW := gw_at 466 rfl rfl
set_option maxRecDepth 100000 in
theorem w_6187071a : Cond.selects RX2 yX2_dropHandler yX2_dropHandler ∈ gwW := gw_at 467 rfl rfl
set_option maxRecDepth 100000 in
theorem w_1579db53 : Cond.methodLink RX6 200 yX6_giveBack ∈ gwW := gw_at 469 rfl rfl
set_option maxRecDepth 100000 in
theorem w_bffa048c : Cond.code yX6_giveBack cX6_giveBack 2 (some .int) ∈ gwW := gw_at 472 rfl rfl
set_option maxRecDepth 100000 in
theorem w_72c4a5a0 : Cond.instanceMethod yX6_giveBack ∈ gwW := gw_at 471 rfl rfl
set_option maxRecDepth 100000 in
theorem w_509e588c : Cond.selects RX6 yX6_giveBack yX6_giveBack ∈ gwW := gw_at 12 rfl rfl
set_option maxRecDepth 100000 in
theorem w_5b211d43 : Cond.methodLink RX6 203 yX6_tellEvent ∈ gwW := gw_at 473 rfl rfl
set_option maxRecDepth 100000 in
theorem w_03222456 : Cond.code yX6_tellEvent cX6_tellEvent 2 (some .int) ∈ gwW := gw_at 476 rfl rfl
set_option maxRecDepth 100000 in
theorem w_4b8ecf71 : Cond.instanceMethod yX6_tellEvent ∈ gwW := gw_at 475 rfl rfl
set_option maxRecDepth 100000 in
theorem w_ac717402 : Cond.selects RX6 yX6_tellEvent yX6_tellEvent ∈ gwW := gw_at 13 rfl rfl
set_option maxRecDepth 100000 in
theorem w_59a569a3 : Cond.methodLink RX6 207 yX6_callOther ∈ gwW := gw_at 481 rfl rfl
set_option maxRecDepth 100000 in
theorem w_6b25aad2 : Cond.code yX6_callOther cX6_callOther 13 (some .int) ∈ gwW := gw_at 484 rfl rfl
set_option maxRecDepth 100000 in
theorem w_baf9a321 : Cond.instanceMethod yX6_callOther ∈ gwW := gw_at 483 rfl rfl
set_option maxRecDepth 100000 in
theorem w_6651d5c2 : Cond.selects RX6 yX6_callOther yX6_callOther ∈ gwW := gw_at 14 rfl rfl
set_option maxRecDepth 100000 in
theorem w_27e24a95 : Cond.methodLink RX6 220 yX6_calculate ∈ gwW := gw_at 513 rfl rfl
set_option maxRecDepth 100000 in
theorem w_7a0196f1 : Cond.code yX6_calculate cX6_calculate 6 (some .int) ∈ gwW := gw_at 515 rfl rfl
set_option maxRecDepth 100000 in
theorem w_035a230a : Cond.static yX6_calculate ∈ gwW := gw_at 514 rfl rfl
set_option maxRecDepth 100000 in
theorem w_90f648af : Cond.fieldLink RX6 217 "CallWalker$Frame" "caller" "I" ∈ gwW := gw_at 195 rfl rfl
set_option maxRecDepth 100000 in
theorem w_c68c6a57 : Cond.methodLink RX6 91 yX2_isAtEnd ∈ gwW := gw_at 325 rfl rfl
set_option maxRecDepth 100000 in
theorem w_464469b2 : Cond.code yX2_isAtEnd cX2_isAtEnd 1 (some .boolean) ∈ gwW := gw_at 328 rfl rfl
set_option maxRecDepth 100000 in
theorem w_52c9f7df : Cond.instanceMethod yX2_isAtEnd ∈ gwW := gw_at 326 rfl rfl
set_option maxRecDepth 100000 in
theorem w_a8a488a5 : Cond.selects RX2 yX2_isAtEnd yX2_isAtEnd ∈ gwW := gw_at 327 rfl rfl
set_option maxRecDepth 100000 in
theorem w_1f0e3b8d : Cond.methodLink RX6 120 yX6_perform ∈ gwW := gw_at 353 rfl rfl
set_option maxRecDepth 100000 in
theorem w_2b51fd84 : Cond.code yX6_perform cX6_perform 5 (some .int) ∈ gwW := gw_at 356 rfl rfl
set_option maxRecDepth 100000 in
theorem w_2e16982e : Cond.instanceMethod yX6_perform ∈ gwW := gw_at 355 rfl rfl
set_option maxRecDepth 100000 in
theorem w_a502de03 : Cond.selects RX6 yX6_perform yX6_perform ∈ gwW := gw_at 5 rfl rfl
set_option maxRecDepth 100000 in
theorem w_3dcd3af6 : Cond.methodLink RX6 102 yX6_fail ∈ gwW := gw_at 333 rfl rfl
set_option maxRecDepth 100000 in
theorem w_097b7644 : Cond.code yX6_fail cX6_fail 3 none ∈ gwW := gw_at 336 rfl rfl
set_option maxRecDepth 100000 in
theorem w_436503bb : Cond.instanceMethod yX6_fail ∈ gwW := gw_at 335 rfl rfl
set_option maxRecDepth 100000 in
theorem w_f99d3967 : Cond.selects RX6 yX6_fail yX6_fail ∈ gwW := gw_at 3 rfl rfl
set_option maxRecDepth 100000 in
theorem w_ac4d0234 : Cond.fieldLink RX6 105 "CallWalker$Frame" "next" "I" ∈ gwW := gw_at 197 rfl rfl
set_option maxRecDepth 100000 in
theorem w_2808caaf : Cond.fieldLink RX6 112 "CallWalker$Behaviour" "codes" "[I" ∈ gwW := gw_at 67 rfl rfl
set_option maxRecDepth 100000 in
theorem w_4ba90f3d : Cond.fieldLink RX6 117 "CallWalker$Behaviour" "numbers" "[I" ∈ gwW := gw_at 69 rfl rfl
set_option maxRecDepth 100000 in
theorem w_714fe44f : Cond.methodLink RX6 73 yX6_advance ∈ gwW := gw_at 321 rfl rfl
set_option maxRecDepth 100000 in
theorem w_5a2878fc : Cond.code yX6_advance cX6_advance 4 none ∈ gwW := gw_at 324 rfl rfl
set_option maxRecDepth 100000 in
theorem w_580654f0 : Cond.instanceMethod yX6_advance ∈ gwW := gw_at 323 rfl rfl
set_option maxRecDepth 100000 in
theorem w_94a297f8 : Cond.selects RX6 yX6_advance yX6_advance ∈ gwW := gw_at 1 rfl rfl
set_option maxRecDepth 100000 in
theorem w_3ff1e1a5 : Cond.fieldLink RX6 49 "CallWalker$Ledger" "eventCount" "I" ∈ gwW := gw_at 111 rfl rfl
set_option maxRecDepth 100000 in
theorem w_c42e965e : Cond.constant RX6 72 (1000000) ∈ gwW := gw_at 320 rfl rfl
set_option maxRecDepth 100000 in
theorem w_f22a5178 : Cond.methodLink RX7 32 yX7_isBehaviour ∈ gwW := gw_at 259 rfl rfl
set_option maxRecDepth 100000 in
theorem w_11d46912 : Cond.methodLink RX7 36 yX1_find ∈ gwW := gw_at 265 rfl rfl
set_option maxRecDepth 100000 in
theorem w_d483e19d : Cond.methodLink RX7 40 yX0_append ∈ gwW := gw_at 269 rfl rfl
set_option maxRecDepth 100000 in
theorem w_5b168648 : Cond.code yX0_append cX0_append 3 (some .boolean) ∈ gwW := gw_at 272 rfl rfl
set_option maxRecDepth 100000 in
theorem w_42df5868 : Cond.instanceMethod yX0_append ∈ gwW := gw_at 270 rfl rfl
set_option maxRecDepth 100000 in
theorem w_75107e93 : Cond.selects RX0 yX0_append yX0_append ∈ gwW := gw_at 271 rfl rfl
set_option maxRecDepth 100000 in
theorem w_7a3df1ba : Cond.fieldLink RX7 10 "CallWalker" "book" "LCallWalker$Book;" ∈ gwW := gw_at 245 rfl rfl
set_option maxRecDepth 100000 in
theorem w_6e1eea5f : Cond.fieldLink RX7 45 "CallWalker$Behaviour" "count" "I" ∈ gwW := gw_at 71 rfl rfl
set_option maxRecDepth 100000 in
theorem w_8ba0034c : Cond.fieldLink RX7 53 "CallWalker$Book" "guarded" "[Z" ∈ gwW := gw_at 85 rfl rfl
set_option maxRecDepth 100000 in
theorem w_3dcf37e4 : Cond.fieldLink RX7 19 "CallWalker" "ledger" "LCallWalker$Ledger;" ∈ gwW := gw_at 246 rfl rfl
set_option maxRecDepth 100000 in
theorem w_25b74935 : Cond.fieldLink RX7 57 "CallWalker$Ledger" "balances" "[J" ∈ gwW := gw_at 104 rfl rfl
set_option maxRecDepth 100000 in
theorem w_67a65630 : Cond.methodLink RX7 61 yX6_go ∈ gwW := gw_at 289 rfl rfl
set_option maxRecDepth 100000 in
theorem w_f5f12c32 : Cond.code yX6_go cX6_go 8 (some .int) ∈ gwW := gw_at 292 rfl rfl
set_option maxRecDepth 100000 in
theorem w_ec92cf84 : Cond.instanceMethod yX6_go ∈ gwW := gw_at 290 rfl rfl
set_option maxRecDepth 100000 in
theorem w_3b85379b : Cond.selects RX6 yX6_go yX6_go ∈ gwW := gw_at 291 rfl rfl
set_option maxRecDepth 100000 in
theorem w_65f0a2e2 : Cond.fieldLink RX7 28 "CallWalker" "walk" "LCallWalker$Walk;" ∈ gwW := gw_at 247 rfl rfl
set_option maxRecDepth 100000 in
theorem w_75276dbb : Cond.fieldLink RX7 65 "CallWalker$Walk" "result" "J" ∈ gwW := gw_at 229 rfl rfl
set_option maxRecDepth 100000 in
theorem w_c113431e : Cond.fieldLink RX7 69 "CallWalker$Walk" "counts" "[I" ∈ gwW := gw_at 225 rfl rfl
set_option maxRecDepth 100000 in
theorem w_8d25cbe0 : Cond.methodLink RX7 73 yX7_isLeaf ∈ gwW := gw_at 539 rfl rfl
set_option maxRecDepth 100000 in
theorem w_bd66277f : Cond.fieldLink RX7 76 "CallWalker$Ledger" "leaves" "[J" ∈ gwW := gw_at 102 rfl rfl
set_option maxRecDepth 100000 in
theorem w_b67da81a : Cond.fieldLink RX7 79 "CallWalker$Ledger" "eventCount" "I" ∈ gwW := gw_at 112 rfl rfl
set_option maxRecDepth 100000 in
theorem w_3c59aded : Cond.methodLink RX7 82 yX3_hasEvent ∈ gwW := gw_at 552 rfl rfl
set_option maxRecDepth 100000 in
theorem w_e4366073 : Cond.code yX3_hasEvent cX3_hasEvent 2 (some .boolean) ∈ gwW := gw_at 555 rfl rfl
set_option maxRecDepth 100000 in
theorem w_21ef8127 : Cond.instanceMethod yX3_hasEvent ∈ gwW := gw_at 553 rfl rfl
set_option maxRecDepth 100000 in
theorem w_03a0fe8a : Cond.selects RX3 yX3_hasEvent yX3_hasEvent ∈ gwW := gw_at 554 rfl rfl
set_option maxRecDepth 100000 in
theorem w_e8d19600 : Cond.fieldLink RX7 85 "CallWalker$Ledger" "eventContracts" "[I" ∈ gwW := gw_at 107 rfl rfl
