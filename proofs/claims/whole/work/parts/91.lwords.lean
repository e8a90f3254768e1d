-- words of the law's calls
set_option maxRecDepth 100000 in
theorem w_6854f9b8 : Cond.methodLink RL 19 yX7_step ∈ gwW := gw_at 255 rfl rfl
set_option maxRecDepth 100000 in
theorem w_97b0205d : Cond.instanceMethod yX7_step ∈ gwW := gw_at 256 rfl rfl
set_option maxRecDepth 100000 in
theorem w_d2eeafaf : Cond.selects RX7 yX7_step yX7_step ∈ gwW := gw_at 257 rfl rfl
set_option maxRecDepth 100000 in
theorem w_413a6c79 : Cond.code yX7_step cX7_step 6 (some .int) ∈ gwW := gw_at 258 rfl rfl
set_option maxRecDepth 100000 in
theorem w_91f0ddda : Cond.methodLink RL 23 yX9_step ∈ gwW := gw_at 700 rfl rfl
set_option maxRecDepth 100000 in
theorem w_a4598443 : Cond.instanceMethod yX9_step ∈ gwW := gw_at 701 rfl rfl
set_option maxRecDepth 100000 in
theorem w_4d705d8b : Cond.selects RX9 yX9_step yX9_step ∈ gwW := gw_at 702 rfl rfl
set_option maxRecDepth 100000 in
theorem w_ba00f89b : Cond.code yX9_step cX9_step 6 (some .int) ∈ gwW := gw_at 703 rfl rfl
set_option maxRecDepth 100000 in
theorem w_64e13e6d : Cond.methodLink RL 24 yX7_empty ∈ gwW := gw_at 273 rfl rfl
set_option maxRecDepth 100000 in
theorem w_481baf9c : Cond.instanceMethod yX7_empty ∈ gwW := gw_at 274 rfl rfl
set_option maxRecDepth 100000 in
theorem w_69e41324 : Cond.selects RX7 yX7_empty yX7_empty ∈ gwW := gw_at 275 rfl rfl
set_option maxRecDepth 100000 in
theorem w_6a1e3b60 : Cond.code yX7_empty cX7_empty 5 (some .int) ∈ gwW := gw_at 276 rfl rfl
set_option maxRecDepth 100000 in
theorem w_73be2ace : Cond.methodLink RL 28 yX9_empty ∈ gwW := gw_at 715 rfl rfl
set_option maxRecDepth 100000 in
theorem w_9d18ce5b : Cond.instanceMethod yX9_empty ∈ gwW := gw_at 716 rfl rfl
set_option maxRecDepth 100000 in
theorem w_2167c184 : Cond.selects RX9 yX9_empty yX9_empty ∈ gwW := gw_at 717 rfl rfl
set_option maxRecDepth 100000 in
theorem w_afac87e4 : Cond.code yX9_empty cX9_empty 5 (some .int) ∈ gwW := gw_at 718 rfl rfl
set_option maxRecDepth 100000 in
theorem w_4bb7a979 : Cond.methodLink RL 29 yX7_guard ∈ gwW := gw_at 277 rfl rfl
set_option maxRecDepth 100000 in
theorem w_6f23596d : Cond.instanceMethod yX7_guard ∈ gwW := gw_at 278 rfl rfl
set_option maxRecDepth 100000 in
theorem w_e199905c : Cond.selects RX7 yX7_guard yX7_guard ∈ gwW := gw_at 279 rfl rfl
set_option maxRecDepth 100000 in
theorem w_148ccaf4 : Cond.code yX7_guard cX7_guard 4 (some .int) ∈ gwW := gw_at 280 rfl rfl
set_option maxRecDepth 100000 in
theorem w_f2627bd8 : Cond.methodLink RL 33 yX9_guard ∈ gwW := gw_at 719 rfl rfl
set_option maxRecDepth 100000 in
theorem w_8341afd6 : Cond.instanceMethod yX9_guard ∈ gwW := gw_at 720 rfl rfl
set_option maxRecDepth 100000 in
theorem w_1e3c4b58 : Cond.selects RX9 yX9_guard yX9_guard ∈ gwW := gw_at 721 rfl rfl
set_option maxRecDepth 100000 in
theorem w_92852024 : Cond.code yX9_guard cX9_guard 4 (some .int) ∈ gwW := gw_at 722 rfl rfl
set_option maxRecDepth 100000 in
theorem w_d44e2661 : Cond.constantLong RL 34 (4294967295) ∈ gwW := gw_at 898 rfl rfl
set_option maxRecDepth 100000 in
theorem w_f115fa55 : Cond.methodLink RL 36 yX7_fund ∈ gwW := gw_at 281 rfl rfl
set_option maxRecDepth 100000 in
theorem w_3b11595b : Cond.instanceMethod yX7_fund ∈ gwW := gw_at 282 rfl rfl
set_option maxRecDepth 100000 in
theorem w_7aa511ae : Cond.selects RX7 yX7_fund yX7_fund ∈ gwW := gw_at 283 rfl rfl
set_option maxRecDepth 100000 in
theorem w_01eadaeb : Cond.code yX7_fund cX7_fund 4 (some .int) ∈ gwW := gw_at 284 rfl rfl
set_option maxRecDepth 100000 in
theorem w_41c08359 : Cond.methodLink RL 40 yX9_fund ∈ gwW := gw_at 723 rfl rfl
set_option maxRecDepth 100000 in
theorem w_d4b61a14 : Cond.instanceMethod yX9_fund ∈ gwW := gw_at 724 rfl rfl
set_option maxRecDepth 100000 in
theorem w_bad05033 : Cond.selects RX9 yX9_fund yX9_fund ∈ gwW := gw_at 725 rfl rfl
set_option maxRecDepth 100000 in
theorem w_9330aa75 : Cond.code yX9_fund cX9_fund 4 (some .int) ∈ gwW := gw_at 726 rfl rfl
set_option maxRecDepth 100000 in
theorem w_e7a0237a : Cond.methodLink RL 41 yX7_run ∈ gwW := gw_at 285 rfl rfl
set_option maxRecDepth 100000 in
theorem w_09822ba3 : Cond.instanceMethod yX7_run ∈ gwW := gw_at 286 rfl rfl
set_option maxRecDepth 100000 in
theorem w_411af23a : Cond.selects RX7 yX7_run yX7_run ∈ gwW := gw_at 287 rfl rfl
set_option maxRecDepth 100000 in
theorem w_6c3741c3 : Cond.code yX7_run cX7_run 6 (some .int) ∈ gwW := gw_at 288 rfl rfl
set_option maxRecDepth 100000 in
theorem w_af5ec646 : Cond.methodLink RL 45 yX9_run ∈ gwW := gw_at 727 rfl rfl
set_option maxRecDepth 100000 in
theorem w_490077dc : Cond.instanceMethod yX9_run ∈ gwW := gw_at 728 rfl rfl
set_option maxRecDepth 100000 in
theorem w_6cf9b4c9 : Cond.selects RX9 yX9_run yX9_run ∈ gwW := gw_at 729 rfl rfl
set_option maxRecDepth 100000 in
theorem w_97322673 : Cond.code yX9_run cX9_run 8 (some .int) ∈ gwW := gw_at 730 rfl rfl
set_option maxRecDepth 100000 in
theorem w_4af3eac7 : Cond.methodLink RL 46 yX7_given ∈ gwW := gw_at 527 rfl rfl
set_option maxRecDepth 100000 in
theorem w_2c91ae82 : Cond.instanceMethod yX7_given ∈ gwW := gw_at 528 rfl rfl
set_option maxRecDepth 100000 in
theorem w_4097c4f7 : Cond.selects RX7 yX7_given yX7_given ∈ gwW := gw_at 529 rfl rfl
set_option maxRecDepth 100000 in
theorem w_53a7f50f : Cond.code yX7_given cX7_given 1 (some .long) ∈ gwW := gw_at 530 rfl rfl
set_option maxRecDepth 100000 in
theorem w_1c97f770 : Cond.methodLink RL 50 yX9_given ∈ gwW := gw_at 870 rfl rfl
set_option maxRecDepth 100000 in
theorem w_52051e11 : Cond.instanceMethod yX9_given ∈ gwW := gw_at 871 rfl rfl
set_option maxRecDepth 100000 in
theorem w_d93e395f : Cond.selects RX9 yX9_given yX9_given ∈ gwW := gw_at 872 rfl rfl
set_option maxRecDepth 100000 in
theorem w_f4725224 : Cond.code yX9_given cX9_given 1 (some .long) ∈ gwW := gw_at 873 rfl rfl
set_option maxRecDepth 100000 in
theorem w_7878956f : Cond.methodLink RL 51 yX7_told ∈ gwW := gw_at 531 rfl rfl
set_option maxRecDepth 100000 in
theorem w_5a0718d2 : Cond.instanceMethod yX7_told ∈ gwW := gw_at 532 rfl rfl
set_option maxRecDepth 100000 in
theorem w_cc643993 : Cond.selects RX7 yX7_told yX7_told ∈ gwW := gw_at 533 rfl rfl
set_option maxRecDepth 100000 in
theorem w_f2d11f66 : Cond.code yX7_told cX7_told 2 (some .int) ∈ gwW := gw_at 534 rfl rfl
set_option maxRecDepth 100000 in
theorem w_59013a4b : Cond.methodLink RL 55 yX9_told ∈ gwW := gw_at 874 rfl rfl
set_option maxRecDepth 100000 in
theorem w_dd3f0b61 : Cond.instanceMethod yX9_told ∈ gwW := gw_at 875 rfl rfl
set_option maxRecDepth 100000 in
theorem w_becd897c : Cond.selects RX9 yX9_told yX9_told ∈ gwW := gw_at 876 rfl rfl
set_option maxRecDepth 100000 in
theorem w_d8cf524a : Cond.code yX9_told cX9_told 2 (some .int) ∈ gwW := gw_at 877 rfl rfl
set_option maxRecDepth 100000 in
theorem w_31b20af3 : Cond.methodLink RL 56 yX7_leaf ∈ gwW := gw_at 535 rfl rfl
set_option maxRecDepth 100000 in
theorem w_5f5bb0b3 : Cond.instanceMethod yX7_leaf ∈ gwW := gw_at 536 rfl rfl
set_option maxRecDepth 100000 in
theorem w_164148fa : Cond.selects RX7 yX7_leaf yX7_leaf ∈ gwW := gw_at 537 rfl rfl
set_option maxRecDepth 100000 in
theorem w_360a11d0 : Cond.code yX7_leaf cX7_leaf 3 (some .long) ∈ gwW := gw_at 538 rfl rfl
set_option maxRecDepth 100000 in
theorem w_f7c219c2 : Cond.methodLink RL 60 yX9_leaf ∈ gwW := gw_at 878 rfl rfl
set_option maxRecDepth 100000 in
theorem w_24446e3f : Cond.instanceMethod yX9_leaf ∈ gwW := gw_at 879 rfl rfl
set_option maxRecDepth 100000 in
theorem w_f70d19cd : Cond.selects RX9 yX9_leaf yX9_leaf ∈ gwW := gw_at 880 rfl rfl
set_option maxRecDepth 100000 in
theorem w_2f1be05e : Cond.code yX9_leaf cX9_leaf 3 (some .long) ∈ gwW := gw_at 881 rfl rfl
set_option maxRecDepth 100000 in
theorem w_3da2624c : Cond.methodLink RL 61 yX7_balance ∈ gwW := gw_at 540 rfl rfl
set_option maxRecDepth 100000 in
theorem w_a9e0d54f : Cond.instanceMethod yX7_balance ∈ gwW := gw_at 541 rfl rfl
set_option maxRecDepth 100000 in
theorem w_fa8aff0f : Cond.selects RX7 yX7_balance yX7_balance ∈ gwW := gw_at 542 rfl rfl
set_option maxRecDepth 100000 in
theorem w_088b71cc : Cond.code yX7_balance cX7_balance 2 (some .long) ∈ gwW := gw_at 543 rfl rfl
set_option maxRecDepth 100000 in
theorem w_ee46a14d : Cond.methodLink RL 64 yX9_balance ∈ gwW := gw_at 882 rfl rfl
set_option maxRecDepth 100000 in
theorem w_b1d61adb : Cond.instanceMethod yX9_balance ∈ gwW := gw_at 883 rfl rfl
set_option maxRecDepth 100000 in
theorem w_e5c5bb9c : Cond.selects RX9 yX9_balance yX9_balance ∈ gwW := gw_at 884 rfl rfl
set_option maxRecDepth 100000 in
theorem w_ccc1968f : Cond.code yX9_balance cX9_balance 2 (some .long) ∈ gwW := gw_at 885 rfl rfl
set_option maxRecDepth 100000 in
theorem w_7bbf5152 : Cond.methodLink RL 65 yX7_events ∈ gwW := gw_at 544 rfl rfl
set_option maxRecDepth 100000 in
theorem w_ff231a8b : Cond.instanceMethod yX7_events ∈ gwW := gw_at 545 rfl rfl
set_option maxRecDepth 100000 in
theorem w_2eafcef6 : Cond.selects RX7 yX7_events yX7_events ∈ gwW := gw_at 546 rfl rfl
set_option maxRecDepth 100000 in
theorem w_a6da2d5f : Cond.code yX7_events cX7_events 1 (some .int) ∈ gwW := gw_at 547 rfl rfl
set_option maxRecDepth 100000 in
theorem w_52b7097b : Cond.methodLink RL 69 yX9_events ∈ gwW := gw_at 886 rfl rfl
set_option maxRecDepth 100000 in
theorem w_c790e24a : Cond.instanceMethod yX9_events ∈ gwW := gw_at 887 rfl rfl
set_option maxRecDepth 100000 in
theorem w_c2747eda : Cond.selects RX9 yX9_events yX9_events ∈ gwW := gw_at 888 rfl rfl
set_option maxRecDepth 100000 in
theorem w_dc18691b : Cond.code yX9_events cX9_events 1 (some .int) ∈ gwW := gw_at 889 rfl rfl
set_option maxRecDepth 100000 in
theorem w_647f9c55 : Cond.methodLink RL 70 yX7_event ∈ gwW := gw_at 548 rfl rfl
set_option maxRecDepth 100000 in
theorem w_096d7c60 : Cond.instanceMethod yX7_event ∈ gwW := gw_at 549 rfl rfl
set_option maxRecDepth 100000 in
theorem w_4af98628 : Cond.selects RX7 yX7_event yX7_event ∈ gwW := gw_at 550 rfl rfl
set_option maxRecDepth 100000 in
theorem w_799d75c0 : Cond.code yX7_event cX7_event 3 (some .int) ∈ gwW := gw_at 551 rfl rfl
set_option maxRecDepth 100000 in
theorem w_66d55fce : Cond.methodLink RL 73 yX9_event ∈ gwW := gw_at 890 rfl rfl
set_option maxRecDepth 100000 in
theorem w_49481160 : Cond.instanceMethod yX9_event ∈ gwW := gw_at 891 rfl rfl
set_option maxRecDepth 100000 in
theorem w_0de5caea : Cond.selects RX9 yX9_event yX9_event ∈ gwW := gw_at 892 rfl rfl
set_option maxRecDepth 100000 in
theorem w_29ed42e5 : Cond.code yX9_event cX9_event 3 (some .int) ∈ gwW := gw_at 893 rfl rfl
set_option maxRecDepth 100000 in
theorem w_07f4af21 : Cond.classLink RL 8 RX7 ∈ gwW := gw_at 45 rfl rfl
set_option maxRecDepth 100000 in
theorem w_effe7255 : Cond.instantiable RX7 3 ∈ gwW := gw_at 46 rfl rfl
set_option maxRecDepth 100000 in
theorem w_04a4c9b7 : Cond.methodLink RL 15 yX7_init ∈ gwW := gw_at 47 rfl rfl
set_option maxRecDepth 100000 in
theorem w_8631ab94 : Cond.instanceMethod yX7_init ∈ gwW := gw_at 48 rfl rfl
set_option maxRecDepth 100000 in
theorem w_b809a0c9 : Cond.code yX7_init cX7_init 1 none ∈ gwW := gw_at 49 rfl rfl
set_option maxRecDepth 100000 in
theorem w_fefb2f88 : Cond.classLink RL 16 RX9 ∈ gwW := gw_at 630 rfl rfl
set_option maxRecDepth 100000 in
theorem w_b5fa977d : Cond.instantiable RX9 19 ∈ gwW := gw_at 631 rfl rfl
set_option maxRecDepth 100000 in
theorem w_c49eaad6 : Cond.methodLink RL 18 yX9_init ∈ gwW := gw_at 632 rfl rfl
set_option maxRecDepth 100000 in
theorem w_1a25f6ee : Cond.instanceMethod yX9_init ∈ gwW := gw_at 633 rfl rfl
set_option maxRecDepth 100000 in
theorem w_00482bd0 : Cond.code yX9_init cX9_init 1 none ∈ gwW := gw_at 634 rfl rfl
set_option maxRecDepth 100000 in
theorem w_e2e0ec3d : Cond.methodLink RL 74 yL_value ∈ gwW := gw_at 556 rfl rfl
set_option maxRecDepth 100000 in
theorem w_ea92d017 : Cond.static yL_value ∈ gwW := gw_at 557 rfl rfl
set_option maxRecDepth 100000 in
theorem w_9b07bad9 : Cond.initialized RL ∈ gwW := gw_at 28 rfl rfl
set_option maxRecDepth 100000 in
theorem w_0169228e : Cond.methodLink RL 79 yX9_value ∈ gwW := gw_at 894 rfl rfl
set_option maxRecDepth 100000 in
theorem w_5d1ab722 : Cond.instanceMethod yX9_value ∈ gwW := gw_at 895 rfl rfl
set_option maxRecDepth 100000 in
theorem w_7147b26e : Cond.selects RX9 yX9_value yX9_value ∈ gwW := gw_at 896 rfl rfl
set_option maxRecDepth 100000 in
theorem w_cc0bad1d : Cond.code yX9_value cX9_value 2 (some .long) ∈ gwW := gw_at 897 rfl rfl
set_option maxRecDepth 100000 in
theorem w_c27d4d0d : Cond.methodLink RL 80 yX9_thrown ∈ gwW := gw_at 696 rfl rfl
set_option maxRecDepth 100000 in
theorem w_17de95fb : Cond.instanceMethod yX9_thrown ∈ gwW := gw_at 697 rfl rfl
set_option maxRecDepth 100000 in
theorem w_d527d131 : Cond.selects RX9 yX9_thrown yX9_thrown ∈ gwW := gw_at 698 rfl rfl
set_option maxRecDepth 100000 in
theorem w_718f1c23 : Cond.code yX9_thrown cX9_thrown 1 (some .int) ∈ gwW := gw_at 699 rfl rfl
