theorem dX9_ran_99 : decode cX9_ran 99 = .ok (.aload_n 0, 1) := by decide +kernel
theorem dX9_ran_100 : decode cX9_ran 100 = .ok (.getfield 193, 3) := by decide +kernel
theorem dX9_ran_103 : decode cX9_ran 103 = .ok (.aload_n 0, 1) := by decide +kernel
theorem dX9_ran_104 : decode cX9_ran 104 = .ok (.getfield 156, 3) := by decide +kernel
theorem dX9_ran_107 : decode cX9_ran 107 = .ok (.invokestatic 196, 3) := by decide +kernel
theorem dX9_ran_110 : decode cX9_ran 110 = .ok (.putfield 193, 3) := by decide +kernel
theorem dX9_ran_113 : decode cX9_ran 113 = .ok (.aload_n 0, 1) := by decide +kernel
theorem dX9_ran_114 : decode cX9_ran 114 = .ok (.aload_n 1, 1) := by decide +kernel
theorem dX9_ran_115 : decode cX9_ran 115 = .ok (.invokevirtual 199, 3) := by decide +kernel
theorem dX9_ran_118 : decode cX9_ran 118 = .ok (.istore 5, 2) := by decide +kernel
theorem dX9_ran_120 : decode cX9_ran 120 = .ok (.aload_n 0, 1) := by decide +kernel
theorem dX9_ran_121 : decode cX9_ran 121 = .ok (.dup, 1) := by decide +kernel
theorem dX9_ran_122 : decode cX9_ran 122 = .ok (.getfield 156, 3) := by decide +kernel
theorem dX9_ran_125 : decode cX9_ran 125 = .ok (.iconst 1, 1) := by decide +kernel
theorem dX9_ran_126 : decode cX9_ran 126 = .ok (.isub, 1) := by decide +kernel
theorem dX9_ran_127 : decode cX9_ran 127 = .ok (.putfield 156, 3) := by decide +kernel
theorem dX9_ran_130 : decode cX9_ran 130 = .ok (.aload_n 0, 1) := by decide +kernel
theorem dX9_ran_131 : decode cX9_ran 131 = .ok (.getfield 30, 3) := by decide +kernel
theorem dX9_ran_134 : decode cX9_ran 134 = .ok (.aload_n 1, 1) := by decide +kernel
theorem dX9_ran_135 : decode cX9_ran 135 = .ok (.getfield 67, 3) := by decide +kernel
theorem dX9_ran_138 : decode cX9_ran 138 = .ok (.dup2, 1) := by decide +kernel
theorem dX9_ran_139 : decode cX9_ran 139 = .ok (.iaload, 1) := by decide +kernel
theorem dX9_ran_140 : decode cX9_ran 140 = .ok (.iconst 1, 1) := by decide +kernel
theorem dX9_ran_141 : decode cX9_ran 141 = .ok (.isub, 1) := by decide +kernel
theorem dX9_ran_142 : decode cX9_ran 142 = .ok (.iastore, 1) := by decide +kernel
theorem dX9_ran_143 : decode cX9_ran 143 = .ok (.iload 5, 2) := by decide +kernel
theorem dX9_ran_145 : decode cX9_ran 145 = .ok (.bipush 100, 2) := by decide +kernel
theorem dX9_ran_147 : decode cX9_ran 147 = .ok (.if_icmp .ne 16, 3) := by decide +kernel
theorem dX9_ran_150 : decode cX9_ran 150 = .ok (.aload_n 0, 1) := by decide +kernel
theorem dX9_ran_151 : decode cX9_ran 151 = .ok (.dup, 1) := by decide +kernel
theorem dX9_ran_152 : decode cX9_ran 152 = .ok (.getfield 203, 3) := by decide +kernel
theorem dX9_ran_155 : decode cX9_ran 155 = .ok (.iconst 1, 1) := by decide +kernel
theorem dX9_ran_156 : decode cX9_ran 156 = .ok (.iadd, 1) := by decide +kernel
theorem dX9_ran_157 : decode cX9_ran 157 = .ok (.putfield 203, 3) := by decide +kernel
theorem dX9_ran_160 : decode cX9_ran 160 = .ok (.bipush 100, 2) := by decide +kernel
theorem dX9_ran_162 : decode cX9_ran 162 = .ok (.ireturn, 1) := by decide +kernel
theorem dX9_ran_163 : decode cX9_ran 163 = .ok (.aload_n 0, 1) := by decide +kernel
theorem dX9_ran_164 : decode cX9_ran 164 = .ok (.dup, 1) := by decide +kernel
theorem dX9_ran_165 : decode cX9_ran 165 = .ok (.getfield 206, 3) := by decide +kernel
theorem dX9_ran_168 : decode cX9_ran 168 = .ok (.iconst 1, 1) := by decide +kernel
theorem dX9_ran_169 : decode cX9_ran 169 = .ok (.iadd, 1) := by decide +kernel
theorem dX9_ran_170 : decode cX9_ran 170 = .ok (.putfield 206, 3) := by decide +kernel
theorem dX9_ran_173 : decode cX9_ran 173 = .ok (.aload_n 1, 1) := by decide +kernel
theorem dX9_ran_174 : decode cX9_ran 174 = .ok (.getfield 187, 3) := by decide +kernel
theorem dX9_ran_177 : decode cX9_ran 177 = .ok (.iconst 0, 1) := by decide +kernel
theorem dX9_ran_178 : decode cX9_ran 178 = .ok (.aload_n 0, 1) := by decide +kernel
theorem dX9_ran_179 : decode cX9_ran 179 = .ok (.getfield 23, 3) := by decide +kernel
theorem dX9_ran_182 : decode cX9_ran 182 = .ok (.iconst 0, 1) := by decide +kernel
theorem dX9_ran_183 : decode cX9_ran 183 = .ok (.aload_n 0, 1) := by decide +kernel
theorem dX9_ran_184 : decode cX9_ran 184 = .ok (.getfield 23, 3) := by decide +kernel
theorem dX9_ran_187 : decode cX9_ran 187 = .ok (.arraylength, 1) := by decide +kernel
theorem dX9_ran_188 : decode cX9_ran 188 = .ok (.invokestatic 172, 3) := by decide +kernel
theorem dX9_ran_191 : decode cX9_ran 191 = .ok (.aload_n 1, 1) := by decide +kernel
theorem dX9_ran_192 : decode cX9_ran 192 = .ok (.getfield 190, 3) := by decide +kernel
theorem dX9_ran_195 : decode cX9_ran 195 = .ok (.iconst 0, 1) := by decide +kernel
theorem dX9_ran_196 : decode cX9_ran 196 = .ok (.aload_n 0, 1) := by decide +kernel
theorem dX9_ran_197 : decode cX9_ran 197 = .ok (.getfield 27, 3) := by decide +kernel
theorem dX9_ran_200 : decode cX9_ran 200 = .ok (.iconst 0, 1) := by decide +kernel
theorem dX9_ran_201 : decode cX9_ran 201 = .ok (.aload_n 0, 1) := by decide +kernel
theorem dX9_ran_202 : decode cX9_ran 202 = .ok (.getfield 27, 3) := by decide +kernel
theorem dX9_ran_205 : decode cX9_ran 205 = .ok (.arraylength, 1) := by decide +kernel
theorem dX9_ran_206 : decode cX9_ran 206 = .ok (.invokestatic 172, 3) := by decide +kernel
theorem dX9_ran_209 : decode cX9_ran 209 = .ok (.aload_n 0, 1) := by decide +kernel
theorem dX9_ran_210 : decode cX9_ran 210 = .ok (.iload 4, 2) := by decide +kernel
theorem dX9_ran_212 : decode cX9_ran 212 = .ok (.putfield 128, 3) := by decide +kernel
theorem dX9_ran_215 : decode cX9_ran 215 = .ok (.iload 5, 2) := by decide +kernel
theorem dX9_ran_217 : decode cX9_ran 217 = .ok (.ireturn, 1) := by decide +kernel
theorem dX9_goes_0 : decode cX9_goes 0 = .ok (.aload_n 0, 1) := by decide +kernel
theorem dX9_goes_1 : decode cX9_goes 1 = .ok (.getfield 16, 3) := by decide +kernel
theorem dX9_goes_4 : decode cX9_goes 4 = .ok (.bipush 6, 2) := by decide +kernel
theorem dX9_goes_6 : decode cX9_goes 6 = .ok (.aload_n 1, 1) := by decide +kernel
theorem dX9_goes_7 : decode cX9_goes 7 = .ok (.getfield 67, 3) := by decide +kernel
theorem dX9_goes_10 : decode cX9_goes 10 = .ok (.imul, 1) := by decide +kernel
theorem dX9_goes_11 : decode cX9_goes 11 = .ok (.aload_n 1, 1) := by decide +kernel
theorem dX9_goes_12 : decode cX9_goes 12 = .ok (.getfield 70, 3) := by decide +kernel
theorem dX9_goes_15 : decode cX9_goes 15 = .ok (.iadd, 1) := by decide +kernel
theorem dX9_goes_16 : decode cX9_goes 16 = .ok (.iaload, 1) := by decide +kernel
theorem dX9_goes_17 : decode cX9_goes 17 = .ok (.istore_n 2, 1) := by decide +kernel
theorem dX9_goes_18 : decode cX9_goes 18 = .ok (.aload_n 1, 1) := by decide +kernel
theorem dX9_goes_19 : decode cX9_goes 19 = .ok (.getfield 73, 3) := by decide +kernel
theorem dX9_goes_22 : decode cX9_goes 22 = .ok (.iload_n 2, 1) := by decide +kernel
theorem dX9_goes_23 : decode cX9_goes 23 = .ok (.if_icmp .ge 150, 3) := by decide +kernel
theorem dX9_goes_26 : decode cX9_goes 26 = .ok (.aload_n 0, 1) := by decide +kernel
theorem dX9_goes_27 : decode cX9_goes 27 = .ok (.aload_n 1, 1) := by decide +kernel
theorem dX9_goes_28 : decode cX9_goes 28 = .ok (.invokevirtual 209, 3) := by decide +kernel
theorem dX9_goes_31 : decode cX9_goes 31 = .ok (.istore_n 3, 1) := by decide +kernel
theorem dX9_goes_32 : decode cX9_goes 32 = .ok (.iload_n 3, 1) := by decide +kernel
theorem dX9_goes_33 : decode cX9_goes 33 = .ok (.bipush 100, 2) := by decide +kernel
theorem dX9_goes_35 : decode cX9_goes 35 = .ok (.if_icmp .eq 9, 3) := by decide +kernel
theorem dX9_goes_38 : decode cX9_goes 38 = .ok (.iload_n 3, 1) := by decide +kernel
theorem dX9_goes_39 : decode cX9_goes 39 = .ok (.bipush 99, 2) := by decide +kernel
theorem dX9_goes_41 : decode cX9_goes 41 = .ok (.if_icmp .ne 5, 3) := by decide +kernel
theorem dX9_goes_44 : decode cX9_goes 44 = .ok (.iload_n 3, 1) := by decide +kernel
theorem dX9_goes_45 : decode cX9_goes 45 = .ok (.ireturn, 1) := by decide +kernel
theorem dX9_goes_46 : decode cX9_goes 46 = .ok (.iload_n 3, 1) := by decide +kernel
theorem dX9_goes_47 : decode cX9_goes 47 = .ok (.ifCond .eq 123, 3) := by decide +kernel
theorem dX9_goes_50 : decode cX9_goes 50 = .ok (.iload_n 3, 1) := by decide +kernel
theorem dX9_goes_51 : decode cX9_goes 51 = .ok (.ifCond .le 7, 3) := by decide +kernel
theorem dX9_goes_54 : decode cX9_goes 54 = .ok (.iconst 1, 1) := by decide +kernel
theorem dX9_goes_55 : decode cX9_goes 55 = .ok (.goto 4, 3) := by decide +kernel
theorem dX9_goes_58 : decode cX9_goes 58 = .ok (.iconst 0, 1) := by decide +kernel
theorem dX9_goes_59 : decode cX9_goes 59 = .ok (.istore 4, 2) := by decide +kernel
theorem dX9_goes_61 : decode cX9_goes 61 = .ok (.iload 4, 2) := by decide +kernel
theorem dX9_goes_63 : decode cX9_goes 63 = .ok (.ifCond .eq 7, 3) := by decide +kernel
theorem dX9_goes_66 : decode cX9_goes 66 = .ok (.iload_n 3, 1) := by decide +kernel
theorem dX9_goes_67 : decode cX9_goes 67 = .ok (.goto 5, 3) := by decide +kernel
theorem dX9_goes_70 : decode cX9_goes 70 = .ok (.iload_n 3, 1) := by decide +kernel
theorem dX9_goes_71 : decode cX9_goes 71 = .ok (.ineg, 1) := by decide +kernel
theorem dX9_goes_72 : decode cX9_goes 72 = .ok (.istore 5, 2) := by decide +kernel
theorem dX9_goes_74 : decode cX9_goes 74 = .ok (.iload 4, 2) := by decide +kernel
theorem dX9_goes_76 : decode cX9_goes 76 = .ok (.ifCond .eq 15, 3) := by decide +kernel
theorem dX9_goes_79 : decode cX9_goes 79 = .ok (.aload_n 0, 1) := by decide +kernel
theorem dX9_goes_80 : decode cX9_goes 80 = .ok (.getfield 212, 3) := by decide +kernel
theorem dX9_goes_83 : decode cX9_goes 83 = .ok (.bipush 10, 2) := by decide +kernel
theorem dX9_goes_85 : decode cX9_goes 85 = .ok (.if_icmp .ne 6, 3) := by decide +kernel
theorem dX9_goes_88 : decode cX9_goes 88 = .ok (.bipush 99, 2) := by decide +kernel
theorem dX9_goes_90 : decode cX9_goes 90 = .ok (.ireturn, 1) := by decide +kernel
theorem dX9_goes_91 : decode cX9_goes 91 = .ok (.aload_n 0, 1) := by decide +kernel
theorem dX9_goes_92 : decode cX9_goes 92 = .ok (.dup, 1) := by decide +kernel
theorem dX9_goes_93 : decode cX9_goes 93 = .ok (.getfield 212, 3) := by decide +kernel
theorem dX9_goes_96 : decode cX9_goes 96 = .ok (.iload 4, 2) := by decide +kernel
theorem dX9_goes_98 : decode cX9_goes 98 = .ok (.ifCond .eq 7, 3) := by decide +kernel
theorem dX9_goes_101 : decode cX9_goes 101 = .ok (.iconst 1, 1) := by decide +kernel
theorem dX9_goes_102 : decode cX9_goes 102 = .ok (.goto 4, 3) := by decide +kernel
theorem dX9_goes_105 : decode cX9_goes 105 = .ok (.iconst 0, 1) := by decide +kernel
theorem dX9_goes_106 : decode cX9_goes 106 = .ok (.iadd, 1) := by decide +kernel
theorem dX9_goes_107 : decode cX9_goes 107 = .ok (.putfield 212, 3) := by decide +kernel
theorem dX9_goes_110 : decode cX9_goes 110 = .ok (.aload_n 1, 1) := by decide +kernel
theorem dX9_goes_111 : decode cX9_goes 111 = .ok (.getfield 115, 3) := by decide +kernel
theorem dX9_goes_114 : decode cX9_goes 114 = .ok (.ifCond .ne 6, 3) := by decide +kernel
theorem dX9_goes_117 : decode cX9_goes 117 = .ok (.iload 5, 2) := by decide +kernel
theorem dX9_goes_119 : decode cX9_goes 119 = .ok (.ireturn, 1) := by decide +kernel
theorem dX9_goes_120 : decode cX9_goes 120 = .ok (.aload_n 1, 1) := by decide +kernel
theorem dX9_goes_121 : decode cX9_goes 121 = .ok (.dup, 1) := by decide +kernel
theorem dX9_goes_122 : decode cX9_goes 122 = .ok (.getfield 115, 3) := by decide +kernel
theorem dX9_goes_125 : decode cX9_goes 125 = .ok (.iconst 1, 1) := by decide +kernel
theorem dX9_goes_126 : decode cX9_goes 126 = .ok (.isub, 1) := by decide +kernel
theorem dX9_goes_127 : decode cX9_goes 127 = .ok (.putfield 115, 3) := by decide +kernel
theorem dX9_goes_130 : decode cX9_goes 130 = .ok (.aload_n 1, 1) := by decide +kernel
theorem dX9_goes_131 : decode cX9_goes 131 = .ok (.aload_n 1, 1) := by decide +kernel
theorem dX9_goes_132 : decode cX9_goes 132 = .ok (.getfield 80, 3) := by decide +kernel
theorem dX9_goes_135 : decode cX9_goes 135 = .ok (.aload_n 1, 1) := by decide +kernel
theorem dX9_goes_136 : decode cX9_goes 136 = .ok (.getfield 121, 3) := by decide +kernel
theorem dX9_goes_139 : decode cX9_goes 139 = .ok (.aload_n 1, 1) := by decide +kernel
theorem dX9_goes_140 : decode cX9_goes 140 = .ok (.getfield 115, 3) := by decide +kernel
theorem dX9_goes_143 : decode cX9_goes 143 = .ok (.iaload, 1) := by decide +kernel
theorem dX9_goes_144 : decode cX9_goes 144 = .ok (.invokestatic 215, 3) := by decide +kernel
theorem dX9_goes_147 : decode cX9_goes 147 = .ok (.putfield 80, 3) := by decide +kernel
theorem dX9_goes_150 : decode cX9_goes 150 = .ok (.aload_n 1, 1) := by decide +kernel
theorem dX9_goes_151 : decode cX9_goes 151 = .ok (.iload 5, 2) := by decide +kernel
theorem dX9_goes_153 : decode cX9_goes 153 = .ok (.i2l, 1) := by decide +kernel
theorem dX9_goes_154 : decode cX9_goes 154 = .ok (.invokevirtual 90, 3) := by decide +kernel
theorem dX9_goes_157 : decode cX9_goes 157 = .ok (.aload_n 1, 1) := by decide +kernel
theorem dX9_goes_158 : decode cX9_goes 158 = .ok (.aload_n 1, 1) := by decide +kernel
theorem dX9_goes_159 : decode cX9_goes 159 = .ok (.getfield 118, 3) := by decide +kernel
theorem dX9_goes_162 : decode cX9_goes 162 = .ok (.aload_n 1, 1) := by decide +kernel
theorem dX9_goes_163 : decode cX9_goes 163 = .ok (.getfield 115, 3) := by decide +kernel
theorem dX9_goes_166 : decode cX9_goes 166 = .ok (.iaload, 1) := by decide +kernel
theorem dX9_goes_167 : decode cX9_goes 167 = .ok (.putfield 73, 3) := by decide +kernel
theorem dX9_goes_170 : decode cX9_goes 170 = .ok (.goto (-152), 3) := by decide +kernel
theorem dX9_goes_173 : decode cX9_goes 173 = .ok (.bipush 100, 2) := by decide +kernel
theorem dX9_goes_175 : decode cX9_goes 175 = .ok (.ireturn, 1) := by decide +kernel
theorem dX9_run_0 : decode cX9_run 0 = .ok (.aload_n 0, 1) := by decide +kernel
theorem dX9_run_1 : decode cX9_run 1 = .ok (.iload_n 1, 1) := by decide +kernel
theorem dX9_run_2 : decode cX9_run 2 = .ok (.iload_n 2, 1) := by decide +kernel
theorem dX9_run_3 : decode cX9_run 3 = .ok (.invokevirtual 57, 3) := by decide +kernel
theorem dX9_run_6 : decode cX9_run 6 = .ok (.ifCond .eq 15, 3) := by decide +kernel
theorem dX9_run_9 : decode cX9_run 9 = .ok (.iload 5, 2) := by decide +kernel
theorem dX9_run_11 : decode cX9_run 11 = .ok (.iconst 0, 1) := by decide +kernel
theorem dX9_run_12 : decode cX9_run 12 = .ok (.sipush 600, 3) := by decide +kernel
theorem dX9_run_15 : decode cX9_run 15 = .ok (.invokestatic 49, 3) := by decide +kernel
theorem dX9_run_18 : decode cX9_run 18 = .ok (.ifCond .ne 5, 3) := by decide +kernel
theorem dX9_run_21 : decode cX9_run 21 = .ok (.iconst (-1), 1) := by decide +kernel
theorem dX9_run_22 : decode cX9_run 22 = .ok (.ireturn, 1) := by decide +kernel
theorem dX9_run_23 : decode cX9_run 23 = .ok (.aload_n 0, 1) := by decide +kernel
theorem dX9_run_24 : decode cX9_run 24 = .ok (.iconst 0, 1) := by decide +kernel
theorem dX9_run_25 : decode cX9_run 25 = .ok (.putfield 128, 3) := by decide +kernel
theorem dX9_run_28 : decode cX9_run 28 = .ok (.aload_n 0, 1) := by decide +kernel
theorem dX9_run_29 : decode cX9_run 29 = .ok (.lconst 0, 1) := by decide +kernel
theorem dX9_run_30 : decode cX9_run 30 = .ok (.putfield 217, 3) := by decide +kernel
theorem dX9_run_33 : decode cX9_run 33 = .ok (.aload_n 0, 1) := by decide +kernel
theorem dX9_run_34 : decode cX9_run 34 = .ok (.iconst 0, 1) := by decide +kernel
theorem dX9_run_35 : decode cX9_run 35 = .ok (.putfield 64, 3) := by decide +kernel
theorem dX9_run_38 : decode cX9_run 38 = .ok (.aload_n 0, 1) := by decide +kernel
theorem dX9_run_39 : decode cX9_run 39 = .ok (.iconst 0, 1) := by decide +kernel
theorem dX9_run_40 : decode cX9_run 40 = .ok (.putfield 212, 3) := by decide +kernel
theorem dX9_run_43 : decode cX9_run 43 = .ok (.aload_n 0, 1) := by decide +kernel
theorem dX9_run_44 : decode cX9_run 44 = .ok (.iconst 0, 1) := by decide +kernel
theorem dX9_run_45 : decode cX9_run 45 = .ok (.putfield 193, 3) := by decide +kernel
theorem dX9_run_48 : decode cX9_run 48 = .ok (.aload_n 0, 1) := by decide +kernel
theorem dX9_run_49 : decode cX9_run 49 = .ok (.iconst 0, 1) := by decide +kernel
theorem dX9_run_50 : decode cX9_run 50 = .ok (.putfield 203, 3) := by decide +kernel
theorem dX9_run_53 : decode cX9_run 53 = .ok (.aload_n 0, 1) := by decide +kernel
theorem dX9_run_54 : decode cX9_run 54 = .ok (.iconst 0, 1) := by decide +kernel
theorem dX9_run_55 : decode cX9_run 55 = .ok (.putfield 206, 3) := by decide +kernel
theorem dX9_run_58 : decode cX9_run 58 = .ok (.aload_n 0, 1) := by decide +kernel
theorem dX9_run_59 : decode cX9_run 59 = .ok (.iconst 0, 1) := by decide +kernel
theorem dX9_run_60 : decode cX9_run 60 = .ok (.putfield 156, 3) := by decide +kernel
theorem dX9_run_63 : decode cX9_run 63 = .ok (.aload_n 0, 1) := by decide +kernel
theorem dX9_run_64 : decode cX9_run 64 = .ok (.iload_n 1, 1) := by decide +kernel
theorem dX9_run_65 : decode cX9_run 65 = .ok (.iconst (-1), 1) := by decide +kernel
theorem dX9_run_66 : decode cX9_run 66 = .ok (.iload_n 2, 1) := by decide +kernel
theorem dX9_run_67 : decode cX9_run 67 = .ok (.iload 5, 2) := by decide +kernel
theorem dX9_run_69 : decode cX9_run 69 = .ok (.invokevirtual 168, 3) := by decide +kernel
theorem dX9_run_72 : decode cX9_run 72 = .ok (.astore 6, 2) := by decide +kernel
theorem dX9_run_74 : decode cX9_run 74 = .ok (.aload 6, 2) := by decide +kernel
theorem dX9_run_76 : decode cX9_run 76 = .ok (.lload_n 3, 1) := by decide +kernel
theorem dX9_run_77 : decode cX9_run 77 = .ok (.invokevirtual 90, 3) := by decide +kernel
theorem dX9_run_80 : decode cX9_run 80 = .ok (.aload_n 0, 1) := by decide +kernel
theorem dX9_run_81 : decode cX9_run 81 = .ok (.aload 6, 2) := by decide +kernel
theorem dX9_run_83 : decode cX9_run 83 = .ok (.lconst 0, 1) := by decide +kernel
theorem dX9_run_84 : decode cX9_run 84 = .ok (.invokevirtual 178, 3) := by decide +kernel
theorem dX9_run_87 : decode cX9_run 87 = .ok (.istore 7, 2) := by decide +kernel
theorem dX9_run_89 : decode cX9_run 89 = .ok (.aload_n 0, 1) := by decide +kernel
theorem dX9_run_90 : decode cX9_run 90 = .ok (.iload 7, 2) := by decide +kernel
theorem dX9_run_92 : decode cX9_run 92 = .ok (.bipush 100, 2) := by decide +kernel
theorem dX9_run_94 : decode cX9_run 94 = .ok (.if_icmp .ne 11, 3) := by decide +kernel
theorem dX9_run_97 : decode cX9_run 97 = .ok (.aload 6, 2) := by decide +kernel
theorem dX9_run_99 : decode cX9_run 99 = .ok (.getfield 124, 3) := by decide +kernel
theorem dX9_run_102 : decode cX9_run 102 = .ok (.goto 4, 3) := by decide +kernel
theorem dX9_run_105 : decode cX9_run 105 = .ok (.lconst 0, 1) := by decide +kernel
theorem dX9_run_106 : decode cX9_run 106 = .ok (.putfield 217, 3) := by decide +kernel
theorem dX9_run_109 : decode cX9_run 109 = .ok (.iload 7, 2) := by decide +kernel
theorem dX9_run_111 : decode cX9_run 111 = .ok (.bipush 100, 2) := by decide +kernel
theorem dX9_run_113 : decode cX9_run 113 = .ok (.if_icmp .ne 7, 3) := by decide +kernel
theorem dX9_run_116 : decode cX9_run 116 = .ok (.iconst 0, 1) := by decide +kernel
theorem dX9_run_117 : decode cX9_run 117 = .ok (.goto 17, 3) := by decide +kernel
theorem dX9_run_120 : decode cX9_run 120 = .ok (.iload 7, 2) := by decide +kernel
theorem dX9_run_122 : decode cX9_run 122 = .ok (.bipush 99, 2) := by decide +kernel
theorem dX9_run_124 : decode cX9_run 124 = .ok (.if_icmp .ne 8, 3) := by decide +kernel
theorem dX9_run_127 : decode cX9_run 127 = .ok (.bipush (-3), 2) := by decide +kernel
theorem dX9_run_129 : decode cX9_run 129 = .ok (.goto 5, 3) := by decide +kernel
theorem dX9_run_132 : decode cX9_run 132 = .ok (.iload 7, 2) := by decide +kernel
theorem dX9_run_134 : decode cX9_run 134 = .ok (.ireturn, 1) := by decide +kernel
theorem dX9_given_0 : decode cX9_given 0 = .ok (.aload_n 0, 1) := by decide +kernel
theorem dX9_given_1 : decode cX9_given 1 = .ok (.iconst 0, 1) := by decide +kernel
theorem dX9_given_2 : decode cX9_given 2 = .ok (.putfield 45, 3) := by decide +kernel
theorem dX9_given_5 : decode cX9_given 5 = .ok (.aload_n 0, 1) := by decide +kernel
theorem dX9_given_6 : decode cX9_given 6 = .ok (.getfield 217, 3) := by decide +kernel
theorem dX9_given_9 : decode cX9_given 9 = .ok (.lreturn, 1) := by decide +kernel
theorem dX9_told_0 : decode cX9_told 0 = .ok (.aload_n 0, 1) := by decide +kernel
theorem dX9_told_1 : decode cX9_told 1 = .ok (.iconst 0, 1) := by decide +kernel
theorem dX9_told_2 : decode cX9_told 2 = .ok (.putfield 45, 3) := by decide +kernel
theorem dX9_told_5 : decode cX9_told 5 = .ok (.iload_n 1, 1) := by decide +kernel
theorem dX9_told_6 : decode cX9_told 6 = .ok (.tableswitch 59 0 4 #[34, 39, 44, 49, 54], 34) := by decide +kernel
theorem dX9_told_40 : decode cX9_told 40 = .ok (.aload_n 0, 1) := by decide +kernel
theorem dX9_told_41 : decode cX9_told 41 = .ok (.getfield 64, 3) := by decide +kernel
theorem dX9_told_44 : decode cX9_told 44 = .ok (.ireturn, 1) := by decide +kernel
theorem dX9_told_45 : decode cX9_told 45 = .ok (.aload_n 0, 1) := by decide +kernel
theorem dX9_told_46 : decode cX9_told 46 = .ok (.getfield 212, 3) := by decide +kernel
theorem dX9_told_49 : decode cX9_told 49 = .ok (.ireturn, 1) := by decide +kernel
theorem dX9_told_50 : decode cX9_told 50 = .ok (.aload_n 0, 1) := by decide +kernel
theorem dX9_told_51 : decode cX9_told 51 = .ok (.getfield 193, 3) := by decide +kernel
theorem dX9_told_54 : decode cX9_told 54 = .ok (.ireturn, 1) := by decide +kernel
theorem dX9_told_55 : decode cX9_told 55 = .ok (.aload_n 0, 1) := by decide +kernel
theorem dX9_told_56 : decode cX9_told 56 = .ok (.getfield 203, 3) := by decide +kernel
theorem dX9_told_59 : decode cX9_told 59 = .ok (.ireturn, 1) := by decide +kernel
theorem dX9_told_60 : decode cX9_told 60 = .ok (.aload_n 0, 1) := by decide +kernel
theorem dX9_told_61 : decode cX9_told 61 = .ok (.getfield 206, 3) := by decide +kernel
theorem dX9_told_64 : decode cX9_told 64 = .ok (.ireturn, 1) := by decide +kernel
theorem dX9_told_65 : decode cX9_told 65 = .ok (.iconst (-1), 1) := by decide +kernel
theorem dX9_told_66 : decode cX9_told 66 = .ok (.ireturn, 1) := by decide +kernel
theorem dX9_leaf_0 : decode cX9_leaf 0 = .ok (.aload_n 0, 1) := by decide +kernel
theorem dX9_leaf_1 : decode cX9_leaf 1 = .ok (.iload_n 1, 1) := by decide +kernel
theorem dX9_leaf_2 : decode cX9_leaf 2 = .ok (.invokevirtual 53, 3) := by decide +kernel
theorem dX9_leaf_5 : decode cX9_leaf 5 = .ok (.ifCond .eq 27, 3) := by decide +kernel
theorem dX9_leaf_8 : decode cX9_leaf 8 = .ok (.iload_n 2, 1) := by decide +kernel
theorem dX9_leaf_9 : decode cX9_leaf 9 = .ok (.iconst 0, 1) := by decide +kernel
theorem dX9_leaf_10 : decode cX9_leaf 10 = .ok (.bipush 7, 2) := by decide +kernel
theorem dX9_leaf_12 : decode cX9_leaf 12 = .ok (.invokestatic 49, 3) := by decide +kernel
theorem dX9_leaf_15 : decode cX9_leaf 15 = .ok (.ifCond .eq 17, 3) := by decide +kernel
theorem dX9_leaf_18 : decode cX9_leaf 18 = .ok (.aload_n 0, 1) := by decide +kernel
theorem dX9_leaf_19 : decode cX9_leaf 19 = .ok (.getfield 23, 3) := by decide +kernel
theorem dX9_leaf_22 : decode cX9_leaf 22 = .ok (.bipush 8, 2) := by decide +kernel
theorem dX9_leaf_24 : decode cX9_leaf 24 = .ok (.iload_n 1, 1) := by decide +kernel
theorem dX9_leaf_25 : decode cX9_leaf 25 = .ok (.imul, 1) := by decide +kernel
theorem dX9_leaf_26 : decode cX9_leaf 26 = .ok (.iload_n 2, 1) := by decide +kernel
theorem dX9_leaf_27 : decode cX9_leaf 27 = .ok (.iadd, 1) := by decide +kernel
theorem dX9_leaf_28 : decode cX9_leaf 28 = .ok (.laload, 1) := by decide +kernel
theorem dX9_leaf_29 : decode cX9_leaf 29 = .ok (.goto 4, 3) := by decide +kernel
theorem dX9_leaf_32 : decode cX9_leaf 32 = .ok (.lconst 0, 1) := by decide +kernel
theorem dX9_leaf_33 : decode cX9_leaf 33 = .ok (.lreturn, 1) := by decide +kernel
theorem dX9_balance_0 : decode cX9_balance 0 = .ok (.aload_n 0, 1) := by decide +kernel
theorem dX9_balance_1 : decode cX9_balance 1 = .ok (.iload_n 1, 1) := by decide +kernel
theorem dX9_balance_2 : decode cX9_balance 2 = .ok (.invokevirtual 53, 3) := by decide +kernel
theorem dX9_balance_5 : decode cX9_balance 5 = .ok (.ifCond .eq 12, 3) := by decide +kernel
theorem dX9_balance_8 : decode cX9_balance 8 = .ok (.aload_n 0, 1) := by decide +kernel
theorem dX9_balance_9 : decode cX9_balance 9 = .ok (.getfield 27, 3) := by decide +kernel
theorem dX9_balance_12 : decode cX9_balance 12 = .ok (.iload_n 1, 1) := by decide +kernel
theorem dX9_balance_13 : decode cX9_balance 13 = .ok (.laload, 1) := by decide +kernel
theorem dX9_balance_14 : decode cX9_balance 14 = .ok (.goto 4, 3) := by decide +kernel
theorem dX9_balance_17 : decode cX9_balance 17 = .ok (.lconst 0, 1) := by decide +kernel
theorem dX9_balance_18 : decode cX9_balance 18 = .ok (.lreturn, 1) := by decide +kernel
theorem dX9_events_0 : decode cX9_events 0 = .ok (.aload_n 0, 1) := by decide +kernel
theorem dX9_events_1 : decode cX9_events 1 = .ok (.iconst 0, 1) := by decide +kernel
theorem dX9_events_2 : decode cX9_events 2 = .ok (.putfield 45, 3) := by decide +kernel
theorem dX9_events_5 : decode cX9_events 5 = .ok (.aload_n 0, 1) := by decide +kernel
theorem dX9_events_6 : decode cX9_events 6 = .ok (.getfield 128, 3) := by decide +kernel
theorem dX9_events_9 : decode cX9_events 9 = .ok (.ireturn, 1) := by decide +kernel
theorem dX9_event_0 : decode cX9_event 0 = .ok (.aload_n 0, 1) := by decide +kernel
theorem dX9_event_1 : decode cX9_event 1 = .ok (.iconst 0, 1) := by decide +kernel
theorem dX9_event_2 : decode cX9_event 2 = .ok (.putfield 45, 3) := by decide +kernel
theorem dX9_event_5 : decode cX9_event 5 = .ok (.iload_n 1, 1) := by decide +kernel
theorem dX9_event_6 : decode cX9_event 6 = .ok (.iconst 0, 1) := by decide +kernel
theorem dX9_event_7 : decode cX9_event 7 = .ok (.aload_n 0, 1) := by decide +kernel
theorem dX9_event_8 : decode cX9_event 8 = .ok (.getfield 128, 3) := by decide +kernel
theorem dX9_event_11 : decode cX9_event 11 = .ok (.iconst 1, 1) := by decide +kernel
theorem dX9_event_12 : decode cX9_event 12 = .ok (.isub, 1) := by decide +kernel
theorem dX9_event_13 : decode cX9_event 13 = .ok (.invokestatic 49, 3) := by decide +kernel
theorem dX9_event_16 : decode cX9_event 16 = .ok (.ifCond .eq 16, 3) := by decide +kernel
theorem dX9_event_19 : decode cX9_event 19 = .ok (.iload_n 2, 1) := by decide +kernel
theorem dX9_event_20 : decode cX9_event 20 = .ok (.ifCond .ne 12, 3) := by decide +kernel
theorem dX9_event_23 : decode cX9_event 23 = .ok (.aload_n 0, 1) := by decide +kernel
theorem dX9_event_24 : decode cX9_event 24 = .ok (.getfield 33, 3) := by decide +kernel
theorem dX9_event_27 : decode cX9_event 27 = .ok (.iload_n 1, 1) := by decide +kernel
theorem dX9_event_28 : decode cX9_event 28 = .ok (.iaload, 1) := by decide +kernel
theorem dX9_event_29 : decode cX9_event 29 = .ok (.goto 4, 3) := by decide +kernel
theorem dX9_event_32 : decode cX9_event 32 = .ok (.iconst (-1), 1) := by decide +kernel
theorem dX9_event_33 : decode cX9_event 33 = .ok (.ireturn, 1) := by decide +kernel
theorem dX9_value_0 : decode cX9_value 0 = .ok (.aload_n 0, 1) := by decide +kernel
theorem dX9_value_1 : decode cX9_value 1 = .ok (.iload_n 1, 1) := by decide +kernel
theorem dX9_value_2 : decode cX9_value 2 = .ok (.iconst 0, 1) := by decide +kernel
theorem dX9_value_3 : decode cX9_value 3 = .ok (.aload_n 0, 1) := by decide +kernel
theorem dX9_value_4 : decode cX9_value 4 = .ok (.getfield 128, 3) := by decide +kernel
theorem dX9_value_7 : decode cX9_value 7 = .ok (.iconst 1, 1) := by decide +kernel
theorem dX9_value_8 : decode cX9_value 8 = .ok (.isub, 1) := by decide +kernel
theorem dX9_value_9 : decode cX9_value 9 = .ok (.invokestatic 49, 3) := by decide +kernel
theorem dX9_value_12 : decode cX9_value 12 = .ok (.ifCond .eq 7, 3) := by decide +kernel
theorem dX9_value_15 : decode cX9_value 15 = .ok (.iconst 0, 1) := by decide +kernel
theorem dX9_value_16 : decode cX9_value 16 = .ok (.goto 4, 3) := by decide +kernel
theorem dX9_value_19 : decode cX9_value 19 = .ok (.iconst 1, 1) := by decide +kernel
theorem dX9_value_20 : decode cX9_value 20 = .ok (.putfield 45, 3) := by decide +kernel
theorem dX9_value_23 : decode cX9_value 23 = .ok (.aload_n 0, 1) := by decide +kernel
theorem dX9_value_24 : decode cX9_value 24 = .ok (.getfield 45, 3) := by decide +kernel
theorem dX9_value_27 : decode cX9_value 27 = .ok (.ifCond .ne 12, 3) := by decide +kernel
theorem dX9_value_30 : decode cX9_value 30 = .ok (.aload_n 0, 1) := by decide +kernel
theorem dX9_value_31 : decode cX9_value 31 = .ok (.getfield 36, 3) := by decide +kernel
theorem dX9_value_34 : decode cX9_value 34 = .ok (.iload_n 1, 1) := by decide +kernel
theorem dX9_value_35 : decode cX9_value 35 = .ok (.laload, 1) := by decide +kernel
theorem dX9_value_36 : decode cX9_value 36 = .ok (.goto 4, 3) := by decide +kernel
theorem dX9_value_39 : decode cX9_value 39 = .ok (.lconst 0, 1) := by decide +kernel
theorem dX9_value_40 : decode cX9_value 40 = .ok (.lreturn, 1) := by decide +kernel
