set_option maxRecDepth 100000 in
theorem w_86c09446 : Cond.methodLink RX0 3 objectInit ∈ gwW := gw_at 65 rfl rfl
theorem w_fba9d542 : Cond.instanceMethod objectInit ∈ gwW := gw_mem (by decide +kernel) (by decide +kernel)
theorem w_9febdb7e : Cond.code objectInit ⟨#[0xb1]⟩ 1 none ∈ gwW := gw_mem (by decide +kernel) (by decide +kernel)
set_option maxRecDepth 100000 in
theorem w_d160d5ac : Cond.arrayClass .int ∈ gwW := gw_at 81 rfl rfl
set_option maxRecDepth 100000 in
theorem w_9612431b : Cond.methodLink RX4 3 objectInit ∈ gwW := gw_at 152 rfl rfl
set_option maxRecDepth 100000 in
theorem w_02a47902 : Cond.methodLink RX5 3 objectInit ∈ gwW := gw_at 172 rfl rfl
set_option maxRecDepth 100000 in
theorem w_148f03a2 : Cond.methodLink RX2 3 objectInit ∈ gwW := gw_at 146 rfl rfl
set_option maxRecDepth 100000 in
theorem w_84db375e : Cond.classLink RX2 38 RX4 ∈ gwW := gw_at 147 rfl rfl
set_option maxRecDepth 100000 in
theorem w_5bf86b5c : Cond.instantiable RX4 4 ∈ gwW := gw_at 148 rfl rfl
set_option maxRecDepth 100000 in
theorem w_c478a159 : Cond.code yX4_init cX4_init 1 none ∈ gwW := gw_at 151 rfl rfl
set_option maxRecDepth 100000 in
theorem w_56b3076f : Cond.instanceMethod yX4_init ∈ gwW := gw_at 150 rfl rfl
set_option maxRecDepth 100000 in
theorem w_47c43fb0 : Cond.classLink RX2 45 RX5 ∈ gwW := gw_at 167 rfl rfl
set_option maxRecDepth 100000 in
theorem w_b4bf32f7 : Cond.instantiable RX5 3 ∈ gwW := gw_at 168 rfl rfl
set_option maxRecDepth 100000 in
theorem w_1cf9c33f : Cond.code yX5_init cX5_init 2 none ∈ gwW := gw_at 171 rfl rfl
set_option maxRecDepth 100000 in
theorem w_f0da8190 : Cond.methodLink RX2 47 yX5_init ∈ gwW := gw_at 169 rfl rfl
set_option maxRecDepth 100000 in
theorem w_4fbce98c : Cond.instanceMethod yX5_init ∈ gwW := gw_at 170 rfl rfl
set_option maxRecDepth 100000 in
theorem w_5eb6e9d5 : Cond.fieldLink RX2 50 "CallWalker$Frame" "rows" "LCallWalker$Rows;" ∈ gwW := gw_at 185 rfl rfl
set_option maxRecDepth 100000 in
theorem w_5e9aab79 : Cond.methodLink RX8 3 objectInit ∈ gwW := gw_at 739 rfl rfl
set_option maxRecDepth 100000 in
theorem w_fc0c8dad : Cond.fieldLink RX8 9 "CallWalkerModel$Frame" "hadLeaves" "[J" ∈ gwW := gw_at 749 rfl rfl
set_option maxRecDepth 100000 in
theorem w_46bdddb6 : Cond.fieldLink RX8 15 "CallWalkerModel$Frame" "hadBalances" "[J" ∈ gwW := gw_at 751 rfl rfl
set_option maxRecDepth 100000 in
theorem w_dad39111 : Cond.classLink RX8 25 "[J" ∈ gwW := gw_at 740 rfl rfl
set_option maxRecDepth 100000 in
theorem w_b458d77a : Cond.fieldLink RX8 30 "CallWalkerModel$Frame" "handlerSteps" "[I" ∈ gwW := gw_at 761 rfl rfl
set_option maxRecDepth 100000 in
theorem w_f5913638 : Cond.fieldLink RX8 33 "CallWalkerModel$Frame" "handlerHighs" "[I" ∈ gwW := gw_at 763 rfl rfl
set_option maxRecDepth 100000 in
theorem w_f9d69244 : Cond.methodLink RX9 1 objectInit ∈ gwW := gw_at 635 rfl rfl
set_option maxRecDepth 100000 in
theorem w_3be30871 : Cond.arrayClass .boolean ∈ gwW := gw_at 80 rfl rfl
set_option maxRecDepth 100000 in
theorem w_0045b4ad : Cond.classLink RX9 39 RX8 ∈ gwW := gw_at 636 rfl rfl
set_option maxRecDepth 100000 in
theorem w_23dc5b2c : Cond.fieldLink RX9 41 "CallWalkerModel" "frames" "[LCallWalkerModel$Frame;" ∈ gwW := gw_at 656 rfl rfl
