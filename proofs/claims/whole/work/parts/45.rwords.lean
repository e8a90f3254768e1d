set_option maxRecDepth 100000 in
theorem w_f534f462 : Cond.fieldLink RX8 36 "CallWalkerModel$Frame" "contract" "I" ∈ gwW := gw_at 741 rfl rfl
set_option maxRecDepth 100000 in
theorem w_d156a30d : Cond.fieldLink RX8 40 "CallWalkerModel$Frame" "caller" "I" ∈ gwW := gw_at 743 rfl rfl
set_option maxRecDepth 100000 in
theorem w_68aa3f08 : Cond.fieldLink RX8 43 "CallWalkerModel$Frame" "behaviour" "I" ∈ gwW := gw_at 745 rfl rfl
set_option maxRecDepth 100000 in
theorem w_1beeec8a : Cond.fieldLink RX8 46 "CallWalkerModel$Frame" "limit" "I" ∈ gwW := gw_at 747 rfl rfl
set_option maxRecDepth 100000 in
theorem w_339f41fd : Cond.fieldLink RX8 49 "CallWalkerModel$Frame" "high" "I" ∈ gwW := gw_at 759 rfl rfl
set_option maxRecDepth 100000 in
theorem w_79571998 : Cond.fieldLink RX8 52 "CallWalkerModel$Frame" "handlers" "I" ∈ gwW := gw_at 765 rfl rfl
set_option maxRecDepth 100000 in
theorem w_f46cc939 : Cond.fieldLink RX8 55 "CallWalkerModel$Frame" "at" "I" ∈ gwW := gw_at 767 rfl rfl
set_option maxRecDepth 100000 in
theorem w_a20c8b9c : Cond.fieldLink RX8 58 "CallWalkerModel$Frame" "gives" "J" ∈ gwW := gw_at 769 rfl rfl
set_option maxRecDepth 100000 in
theorem w_e9c6df78 : Cond.fieldLink RX8 18 "CallWalkerModel$Frame" "sorts" "[I" ∈ gwW := gw_at 753 rfl rfl
set_option maxRecDepth 100000 in
theorem w_5700fb43 : Cond.fieldLink RX8 22 "CallWalkerModel$Frame" "n" "[J" ∈ gwW := gw_at 755 rfl rfl
set_option maxRecDepth 100000 in
theorem w_2acdb605 : Cond.fieldLink RX8 26 "CallWalkerModel$Frame" "rows" "[[J" ∈ gwW := gw_at 757 rfl rfl
set_option maxRecDepth 100000 in
theorem w_3edceb25 : Cond.code yX8_push cX8_push 5 none ∈ gwW := gw_at 813 rfl rfl
set_option maxRecDepth 100000 in
theorem w_f8dda819 : Cond.methodLink RX8 62 yX8_push ∈ gwW := gw_at 810 rfl rfl
set_option maxRecDepth 100000 in
theorem w_e0cb4f46 : Cond.instanceMethod yX8_push ∈ gwW := gw_at 811 rfl rfl
set_option maxRecDepth 100000 in
theorem w_a23f96d7 : Cond.selects RX8 yX8_push yX8_push ∈ gwW := gw_at 812 rfl rfl
set_option maxRecDepth 100000 in
theorem w_18ea82d2 : Cond.initialized RX8 ∈ gwW := gw_at 40 rfl rfl
set_option maxRecDepth 100000 in
theorem w_072cb29f : Cond.fieldLink RX9 45 "CallWalkerModel" "code" "I" ∈ gwW := gw_at 638 rfl rfl
set_option maxRecDepth 100000 in
theorem w_c8674231 : Cond.code yX9_isIn cX9_isIn 3 (some .boolean) ∈ gwW := gw_at 714 rfl rfl
set_option maxRecDepth 100000 in
theorem w_b104d635 : Cond.methodLink RX9 49 yX9_isIn ∈ gwW := gw_at 712 rfl rfl
set_option maxRecDepth 100000 in
theorem w_dc566d63 : Cond.static yX9_isIn ∈ gwW := gw_at 713 rfl rfl
set_option maxRecDepth 100000 in
theorem w_18f41a94 : Cond.initialized RX9 ∈ gwW := gw_at 37 rfl rfl
set_option maxRecDepth 100000 in
theorem w_8fbfc78e : Cond.code yX9_isContract cX9_isContract 2 (some .boolean) ∈ gwW := gw_at 711 rfl rfl
set_option maxRecDepth 100000 in
theorem w_2a3edacb : Cond.methodLink RX9 53 yX9_isContract ∈ gwW := gw_at 708 rfl rfl
set_option maxRecDepth 100000 in
theorem w_154d6145 : Cond.instanceMethod yX9_isContract ∈ gwW := gw_at 710 rfl rfl
set_option maxRecDepth 100000 in
theorem w_9fa83223 : Cond.selects RX9 yX9_isContract yX9_isContract ∈ gwW := gw_at 19 rfl rfl
set_option maxRecDepth 100000 in
theorem w_021ca238 : Cond.fieldLink RX9 9 "CallWalkerModel" "codes" "[I" ∈ gwW := gw_at 639 rfl rfl
set_option maxRecDepth 100000 in
theorem w_eb510d35 : Cond.fieldLink RX9 13 "CallWalkerModel" "numbers" "[I" ∈ gwW := gw_at 640 rfl rfl
set_option maxRecDepth 100000 in
theorem w_18ab44c4 : Cond.fieldLink RX9 16 "CallWalkerModel" "sizes" "[I" ∈ gwW := gw_at 641 rfl rfl
set_option maxRecDepth 100000 in
theorem w_4419c06f : Cond.code yX9_isBehaviour cX9_isBehaviour 3 (some .boolean) ∈ gwW := gw_at 707 rfl rfl
set_option maxRecDepth 100000 in
theorem w_b230e3ee : Cond.methodLink RX9 57 yX9_isBehaviour ∈ gwW := gw_at 704 rfl rfl
set_option maxRecDepth 100000 in
theorem w_20c22ce8 : Cond.instanceMethod yX9_isBehaviour ∈ gwW := gw_at 706 rfl rfl
set_option maxRecDepth 100000 in
theorem w_9427cb5f : Cond.selects RX9 yX9_isBehaviour yX9_isBehaviour ∈ gwW := gw_at 18 rfl rfl
set_option maxRecDepth 100000 in
theorem w_efb03767 : Cond.fieldLink RX9 19 "CallWalkerModel" "guarded" "[Z" ∈ gwW := gw_at 642 rfl rfl
set_option maxRecDepth 100000 in
theorem w_84119660 : Cond.fieldLink RX9 27 "CallWalkerModel" "balances" "[J" ∈ gwW := gw_at 644 rfl rfl
set_option maxRecDepth 100000 in
theorem w_efe6a0f8 : Cond.fieldLink RX9 217 "CallWalkerModel" "given" "J" ∈ gwW := gw_at 649 rfl rfl
set_option maxRecDepth 100000 in
theorem w_6e237316 : Cond.fieldLink RX9 64 "CallWalkerModel" "taken" "I" ∈ gwW := gw_at 650 rfl rfl
set_option maxRecDepth 100000 in
theorem w_6cc0f4a7 : Cond.fieldLink RX9 193 "CallWalkerModel" "most" "I" ∈ gwW := gw_at 652 rfl rfl
set_option maxRecDepth 100000 in
theorem w_6c3d7dd0 : Cond.fieldLink RX9 203 "CallWalkerModel" "well" "I" ∈ gwW := gw_at 653 rfl rfl
set_option maxRecDepth 100000 in
theorem w_81fdb2eb : Cond.fieldLink RX9 206 "CallWalkerModel" "undone" "I" ∈ gwW := gw_at 654 rfl rfl
set_option maxRecDepth 100000 in
theorem w_a74db918 : Cond.fieldLink RX9 212 "CallWalkerModel" "failures" "I" ∈ gwW := gw_at 651 rfl rfl
set_option maxRecDepth 100000 in
theorem w_3c9d41c6 : Cond.fieldLink RX9 23 "CallWalkerModel" "leaves" "[J" ∈ gwW := gw_at 643 rfl rfl
set_option maxRecDepth 100000 in
theorem w_e76b45dd : Cond.fieldLink RX9 128 "CallWalkerModel" "events" "I" ∈ gwW := gw_at 648 rfl rfl
set_option maxRecDepth 100000 in
theorem w_4baf838d : Cond.fieldLink RX9 33 "CallWalkerModel" "eventContracts" "[I" ∈ gwW := gw_at 646 rfl rfl
set_option maxRecDepth 100000 in
theorem w_041da35b : Cond.fieldLink RX9 36 "CallWalkerModel" "eventNumbers" "[J" ∈ gwW := gw_at 647 rfl rfl
set_option maxRecDepth 100000 in
theorem w_36d04f4c : Cond.fieldLink RX9 100 "CallWalkerModel$Frame" "sorts" "[I" ∈ gwW := gw_at 754 rfl rfl
set_option maxRecDepth 100000 in
theorem w_702e6e74 : Cond.constantLong RJ9 138 (4294967295) ∈ gwW := gw_at 845 rfl rfl
set_option maxRecDepth 100000 in
theorem w_e7df77bd : Cond.code yJ9_multiplyHigh_f86c9 cJ9_multiplyHigh_f86c9 20 (some .long) ∈ gwW := gw_at 844 rfl rfl
set_option maxRecDepth 100000 in
theorem w_ed46eef6 : Cond.methodLink RX9 141 yJ9_multiplyHigh_f86c9 ∈ gwW := gw_at 842 rfl rfl
set_option maxRecDepth 100000 in
theorem w_19dce57d : Cond.static yJ9_multiplyHigh_f86c9 ∈ gwW := gw_at 843 rfl rfl
set_option maxRecDepth 100000 in
theorem w_c7c21b6f : Cond.initialized RJ9 ∈ gwW := gw_at 39 rfl rfl
set_option maxRecDepth 100000 in
theorem w_bb1741c6 : Cond.fieldLink RX9 97 "CallWalkerModel$Frame" "n" "[J" ∈ gwW := gw_at 756 rfl rfl
set_option maxRecDepth 100000 in
theorem w_a2deccac : Cond.code yX8_isNumber cX8_isNumber 2 (some .boolean) ∈ gwW := gw_at 838 rfl rfl
set_option maxRecDepth 100000 in
theorem w_c76bdf02 : Cond.methodLink RX9 94 yX8_isNumber ∈ gwW := gw_at 835 rfl rfl
set_option maxRecDepth 100000 in
theorem w_8ae0f39a : Cond.instanceMethod yX8_isNumber ∈ gwW := gw_at 836 rfl rfl
set_option maxRecDepth 100000 in
theorem w_9dc8e263 : Cond.selects RX8 yX8_isNumber yX8_isNumber ∈ gwW := gw_at 837 rfl rfl
set_option maxRecDepth 100000 in
theorem w_54e1986d : Cond.code yX8_number cX8_number 3 none ∈ gwW := gw_at 809 rfl rfl
set_option maxRecDepth 100000 in
theorem w_a50611e6 : Cond.methodLink RX9 90 yX8_number ∈ gwW := gw_at 806 rfl rfl
set_option maxRecDepth 100000 in
theorem w_8ebaf0f1 : Cond.instanceMethod yX8_number ∈ gwW := gw_at 807 rfl rfl
set_option maxRecDepth 100000 in
theorem w_dd21e4d3 : Cond.selects RX8 yX8_number yX8_number ∈ gwW := gw_at 808 rfl rfl
set_option maxRecDepth 100000 in
theorem w_2883e263 : Cond.code yX9_fits cX9_fits 7 (some .boolean) ∈ gwW := gw_at 841 rfl rfl
set_option maxRecDepth 100000 in
theorem w_d3e26e9d : Cond.methodLink RX9 137 yX9_fits ∈ gwW := gw_at 839 rfl rfl
set_option maxRecDepth 100000 in
theorem w_e4e1da98 : Cond.static yX9_fits ∈ gwW := gw_at 840 rfl rfl
set_option maxRecDepth 100000 in
theorem w_05e7d7f0 : Cond.fieldLink RX9 103 "CallWalkerModel$Frame" "rows" "[[J" ∈ gwW := gw_at 758 rfl rfl
set_option maxRecDepth 100000 in
theorem w_f2af499d : Cond.arrayClass .long ∈ gwW := gw_at 133 rfl rfl
set_option maxRecDepth 100000 in
theorem w_8ea2e188 : Cond.constantLong RX9 147 (16) ∈ gwW := gw_at 850 rfl rfl
set_option maxRecDepth 100000 in
theorem w_e1c787ee : Cond.methodLink RX9 107 yX8_push ∈ gwW := gw_at 851 rfl rfl
set_option maxRecDepth 100000 in
theorem w_559fda29 : Cond.code yX9_wrongRow cX9_wrongRow 3 (some .int) ∈ gwW := gw_at 857 rfl rfl
set_option maxRecDepth 100000 in
theorem w_12d75d55 : Cond.methodLink RX9 153 yX9_wrongRow ∈ gwW := gw_at 855 rfl rfl
set_option maxRecDepth 100000 in
theorem w_561f6833 : Cond.static yX9_wrongRow ∈ gwW := gw_at 856 rfl rfl
set_option maxRecDepth 100000 in
theorem w_18c0e591 : Cond.code yX9_copied cX9_copied 12 (some .int) ∈ gwW := gw_at 854 rfl rfl
set_option maxRecDepth 100000 in
theorem w_1f7c1ee6 : Cond.methodLink RX9 149 yX9_copied ∈ gwW := gw_at 852 rfl rfl
set_option maxRecDepth 100000 in
theorem w_6e675983 : Cond.static yX9_copied ∈ gwW := gw_at 853 rfl rfl
set_option maxRecDepth 100000 in
theorem w_9377dda0 : Cond.fieldLink RX9 30 "CallWalkerModel" "under" "[I" ∈ gwW := gw_at 645 rfl rfl
set_option maxRecDepth 100000 in
theorem w_b3eed388 : Cond.fieldLink RX9 61 "CallWalkerModel$Frame" "limit" "I" ∈ gwW := gw_at 748 rfl rfl
set_option maxRecDepth 100000 in
theorem w_1c4b90a6 : Cond.fieldLink RX9 67 "CallWalkerModel$Frame" "contract" "I" ∈ gwW := gw_at 742 rfl rfl
set_option maxRecDepth 100000 in
theorem w_4df17ecc : Cond.fieldLink RX9 124 "CallWalkerModel$Frame" "gives" "J" ∈ gwW := gw_at 770 rfl rfl
set_option maxRecDepth 100000 in
theorem w_f30ac9b6 : Cond.fieldLink RX9 156 "CallWalkerModel" "calls" "I" ∈ gwW := gw_at 655 rfl rfl
set_option maxRecDepth 100000 in
theorem w_91749c89 : Cond.constantLong RX9 160 (9223372036854775807) ∈ gwW := gw_at 866 rfl rfl
set_option maxRecDepth 100000 in
theorem w_04e9077b : Cond.methodLink RX9 162 Lib.MathLoose.min_long.x ∈ gwW := gw_at 867 rfl rfl
set_option maxRecDepth 100000 in
theorem w_3c4c2edb : Cond.methodLink RX9 165 Lib.MathLoose.max_long.x ∈ gwW := gw_at 868 rfl rfl
set_option maxRecDepth 100000 in
theorem w_794b17b8 : Cond.methodLink RX9 172 arraycopyName ∈ gwW := gw_at 818 rfl rfl
set_option maxRecDepth 100000 in
theorem w_93cd893c : Cond.code yX9_frame cX9_frame 5 (some (.object "CallWalkerModel$Frame")) ∈ gwW := gw_at 734 rfl rfl
set_option maxRecDepth 100000 in
theorem w_69f9da88 : Cond.methodLink RX9 168 yX9_frame ∈ gwW := gw_at 731 rfl rfl
set_option maxRecDepth 100000 in
theorem w_79042909 : Cond.instanceMethod yX9_frame ∈ gwW := gw_at 733 rfl rfl
set_option maxRecDepth 100000 in
theorem w_ec1f1e80 : Cond.selects RX9 yX9_frame yX9_frame ∈ gwW := gw_at 20 rfl rfl
set_option maxRecDepth 100000 in
theorem w_e2b6d88b : Cond.code yX9_ran cX9_ran 6 (some .int) ∈ gwW := gw_at 817 rfl rfl
set_option maxRecDepth 100000 in
theorem w_9af1e83a : Cond.methodLink RX9 178 yX9_ran ∈ gwW := gw_at 814 rfl rfl
set_option maxRecDepth 100000 in
theorem w_08df12e9 : Cond.instanceMethod yX9_ran ∈ gwW := gw_at 816 rfl rfl
set_option maxRecDepth 100000 in
theorem w_4c2aadfc : Cond.selects RX9 yX9_ran yX9_ran ∈ gwW := gw_at 21 rfl rfl
set_option maxRecDepth 100000 in
theorem w_3b4ec9b7 : Cond.fieldLink RX9 70 "CallWalkerModel$Frame" "behaviour" "I" ∈ gwW := gw_at 746 rfl rfl
set_option maxRecDepth 100000 in
theorem w_f693c208 : Cond.fieldLink RX9 73 "CallWalkerModel$Frame" "at" "I" ∈ gwW := gw_at 768 rfl rfl
set_option maxRecDepth 100000 in
theorem w_4931c96f : Cond.fieldLink RX9 80 "CallWalkerModel$Frame" "high" "I" ∈ gwW := gw_at 760 rfl rfl
set_option maxRecDepth 100000 in
theorem w_71340fd1 : Cond.fieldLink RX9 115 "CallWalkerModel$Frame" "handlers" "I" ∈ gwW := gw_at 766 rfl rfl
set_option maxRecDepth 100000 in
theorem w_03052ef3 : Cond.fieldLink RX9 118 "CallWalkerModel$Frame" "handlerSteps" "[I" ∈ gwW := gw_at 762 rfl rfl
set_option maxRecDepth 100000 in
theorem w_32a6cc1e : Cond.fieldLink RX9 121 "CallWalkerModel$Frame" "handlerHighs" "[I" ∈ gwW := gw_at 764 rfl rfl
set_option maxRecDepth 100000 in
theorem w_f9b58dc7 : Cond.fieldLink RX9 134 "CallWalkerModel$Frame" "caller" "I" ∈ gwW := gw_at 744 rfl rfl
set_option maxRecDepth 100000 in
theorem w_5fec57c9 : Cond.code yX9_calls cX9_calls 15 (some .int) ∈ gwW := gw_at 865 rfl rfl
set_option maxRecDepth 100000 in
theorem w_ea145c04 : Cond.methodLink RX9 131 yX9_calls ∈ gwW := gw_at 862 rfl rfl
set_option maxRecDepth 100000 in
theorem w_2c54f1ad : Cond.instanceMethod yX9_calls ∈ gwW := gw_at 864 rfl rfl
set_option maxRecDepth 100000 in
theorem w_58ca5cc7 : Cond.selects RX9 yX9_calls yX9_calls ∈ gwW := gw_at 27 rfl rfl
set_option maxRecDepth 100000 in
theorem w_a0f9cc3a : Cond.code yX9_needs cX9_needs 1 (some .int) ∈ gwW := gw_at 830 rfl rfl
set_option maxRecDepth 100000 in
theorem w_18884950 : Cond.methodLink RX9 76 yX9_needs ∈ gwW := gw_at 828 rfl rfl
set_option maxRecDepth 100000 in
theorem w_2e72e8b0 : Cond.static yX9_needs ∈ gwW := gw_at 829 rfl rfl
set_option maxRecDepth 100000 in
theorem w_81c9a7d5 : Cond.code yX9_went cX9_went 6 (some .int) ∈ gwW := gw_at 861 rfl rfl
set_option maxRecDepth 100000 in
theorem w_c90cac2c : Cond.methodLink RX9 111 yX9_went ∈ gwW := gw_at 858 rfl rfl
set_option maxRecDepth 100000 in
theorem w_29623339 : Cond.instanceMethod yX9_went ∈ gwW := gw_at 860 rfl rfl
set_option maxRecDepth 100000 in
theorem w_cc0900f9 : Cond.selects RX9 yX9_went yX9_went ∈ gwW := gw_at 26 rfl rfl
set_option maxRecDepth 100000 in
theorem w_dd4cdae6 : Cond.code yX9_rowed cX9_rowed 9 (some .int) ∈ gwW := gw_at 849 rfl rfl
set_option maxRecDepth 100000 in
theorem w_7404d7f8 : Cond.methodLink RX9 87 yX9_rowed ∈ gwW := gw_at 846 rfl rfl
set_option maxRecDepth 100000 in
theorem w_78850d76 : Cond.instanceMethod yX9_rowed ∈ gwW := gw_at 848 rfl rfl
set_option maxRecDepth 100000 in
theorem w_4de68fc0 : Cond.selects RX9 yX9_rowed yX9_rowed ∈ gwW := gw_at 25 rfl rfl
set_option maxRecDepth 100000 in
theorem w_30f75d5c : Cond.code yX9_reckoned cX9_reckoned 8 (some .int) ∈ gwW := gw_at 834 rfl rfl
set_option maxRecDepth 100000 in
theorem w_501274e5 : Cond.methodLink RX9 83 yX9_reckoned ∈ gwW := gw_at 831 rfl rfl
set_option maxRecDepth 100000 in
theorem w_26945c38 : Cond.instanceMethod yX9_reckoned ∈ gwW := gw_at 833 rfl rfl
set_option maxRecDepth 100000 in
theorem w_f78928f2 : Cond.selects RX9 yX9_reckoned yX9_reckoned ∈ gwW := gw_at 24 rfl rfl
set_option maxRecDepth 100000 in
theorem w_ca9c866c : Cond.methodLink RX9 215 Lib.Math.min.name ∈ gwW := gw_at 869 rfl rfl
set_option maxRecDepth 100000 in
theorem w_b309e3b0 : Cond.code yX9_done cX9_done 11 (some .int) ∈ gwW := gw_at 827 rfl rfl
set_option maxRecDepth 100000 in
theorem w_d47c33f0 : Cond.methodLink RX9 209 yX9_done ∈ gwW := gw_at 824 rfl rfl
set_option maxRecDepth 100000 in
theorem w_cea816cf : Cond.instanceMethod yX9_done ∈ gwW := gw_at 826 rfl rfl
set_option maxRecDepth 100000 in
theorem w_7bdfa933 : Cond.selects RX9 yX9_done yX9_done ∈ gwW := gw_at 23 rfl rfl
set_option maxRecDepth 100000 in
theorem w_cdd050e4 : Cond.fieldLink RX9 187 "CallWalkerModel$Frame" "hadLeaves" "[J" ∈ gwW := gw_at 750 rfl rfl
set_option maxRecDepth 100000 in
theorem w_79e074cf : Cond.fieldLink RX9 190 "CallWalkerModel$Frame" "hadBalances" "[J" ∈ gwW := gw_at 752 rfl rfl
set_option maxRecDepth 100000 in
theorem w_33f50f97 : Cond.methodLink RX9 196 Lib.Math.max.name ∈ gwW := gw_at 819 rfl rfl
set_option maxRecDepth 100000 in
theorem w_390cdf0e : Cond.code yX9_goes cX9_goes 6 (some .int) ∈ gwW := gw_at 823 rfl rfl
set_option maxRecDepth 100000 in
theorem w_828ba394 : Cond.methodLink RX9 199 yX9_goes ∈ gwW := gw_at 820 rfl rfl
set_option maxRecDepth 100000 in
theorem w_6694c3a7 : Cond.instanceMethod yX9_goes ∈ gwW := gw_at 822 rfl rfl
set_option maxRecDepth 100000 in
theorem w_8aab7d39 : Cond.selects RX9 yX9_goes yX9_goes ∈ gwW := gw_at 22 rfl rfl
