theorem dX9_rowed_240 : decode cX9_rowed 240 = .ok (.ifCond .lt 17, 3) := by decide +kernel
theorem dX9_rowed_243 : decode cX9_rowed 243 = .ok (.lload 7, 2) := by decide +kernel
theorem dX9_rowed_245 : decode cX9_rowed 245 = .ok (.aload_n 1, 1) := by decide +kernel
theorem dX9_rowed_246 : decode cX9_rowed 246 = .ok (.getfield 103, 3) := by decide +kernel
theorem dX9_rowed_249 : decode cX9_rowed 249 = .ok (.iload_n 3, 1) := by decide +kernel
theorem dX9_rowed_250 : decode cX9_rowed 250 = .ok (.aaload, 1) := by decide +kernel
theorem dX9_rowed_251 : decode cX9_rowed 251 = .ok (.arraylength, 1) := by decide +kernel
theorem dX9_rowed_252 : decode cX9_rowed 252 = .ok (.i2l, 1) := by decide +kernel
theorem dX9_rowed_253 : decode cX9_rowed 253 = .ok (.lcmp, 1) := by decide +kernel
theorem dX9_rowed_254 : decode cX9_rowed 254 = .ok (.ifCond .lt 5, 3) := by decide +kernel
theorem dX9_rowed_257 : decode cX9_rowed 257 = .ok (.iconst 3, 1) := by decide +kernel
theorem dX9_rowed_258 : decode cX9_rowed 258 = .ok (.ireturn, 1) := by decide +kernel
theorem dX9_rowed_259 : decode cX9_rowed 259 = .ok (.iload 4, 2) := by decide +kernel
theorem dX9_rowed_261 : decode cX9_rowed 261 = .ok (.ifCond .eq 43, 3) := by decide +kernel
theorem dX9_rowed_264 : decode cX9_rowed 264 = .ok (.aload_n 1, 1) := by decide +kernel
theorem dX9_rowed_265 : decode cX9_rowed 265 = .ok (.getfield 103, 3) := by decide +kernel
theorem dX9_rowed_268 : decode cX9_rowed 268 = .ok (.iload_n 3, 1) := by decide +kernel
theorem dX9_rowed_269 : decode cX9_rowed 269 = .ok (.aaload, 1) := by decide +kernel
theorem dX9_rowed_270 : decode cX9_rowed 270 = .ok (.lload 7, 2) := by decide +kernel
theorem dX9_rowed_272 : decode cX9_rowed 272 = .ok (.l2i, 1) := by decide +kernel
theorem dX9_rowed_273 : decode cX9_rowed 273 = .ok (.iload 5, 2) := by decide +kernel
theorem dX9_rowed_275 : decode cX9_rowed 275 = .ok (.iconst 2, 1) := by decide +kernel
theorem dX9_rowed_276 : decode cX9_rowed 276 = .ok (.if_icmp .ne 16, 3) := by decide +kernel
theorem dX9_rowed_279 : decode cX9_rowed 279 = .ok (.aload_n 1, 1) := by decide +kernel
theorem dX9_rowed_280 : decode cX9_rowed 280 = .ok (.getfield 97, 3) := by decide +kernel
theorem dX9_rowed_283 : decode cX9_rowed 283 = .ok (.iload_n 3, 1) := by decide +kernel
theorem dX9_rowed_284 : decode cX9_rowed 284 = .ok (.iconst 2, 1) := by decide +kernel
theorem dX9_rowed_285 : decode cX9_rowed 285 = .ok (.iadd, 1) := by decide +kernel
theorem dX9_rowed_286 : decode cX9_rowed 286 = .ok (.laload, 1) := by decide +kernel
theorem dX9_rowed_287 : decode cX9_rowed 287 = .ok (.l2i, 1) := by decide +kernel
theorem dX9_rowed_288 : decode cX9_rowed 288 = .ok (.i2l, 1) := by decide +kernel
theorem dX9_rowed_289 : decode cX9_rowed 289 = .ok (.goto 11, 3) := by decide +kernel
theorem dX9_rowed_292 : decode cX9_rowed 292 = .ok (.aload_n 1, 1) := by decide +kernel
theorem dX9_rowed_293 : decode cX9_rowed 293 = .ok (.getfield 97, 3) := by decide +kernel
theorem dX9_rowed_296 : decode cX9_rowed 296 = .ok (.iload_n 3, 1) := by decide +kernel
theorem dX9_rowed_297 : decode cX9_rowed 297 = .ok (.iconst 2, 1) := by decide +kernel
theorem dX9_rowed_298 : decode cX9_rowed 298 = .ok (.iadd, 1) := by decide +kernel
theorem dX9_rowed_299 : decode cX9_rowed 299 = .ok (.laload, 1) := by decide +kernel
theorem dX9_rowed_300 : decode cX9_rowed 300 = .ok (.lastore, 1) := by decide +kernel
theorem dX9_rowed_301 : decode cX9_rowed 301 = .ok (.goto 17, 3) := by decide +kernel
theorem dX9_rowed_304 : decode cX9_rowed 304 = .ok (.aload_n 1, 1) := by decide +kernel
theorem dX9_rowed_305 : decode cX9_rowed 305 = .ok (.aload_n 1, 1) := by decide +kernel
theorem dX9_rowed_306 : decode cX9_rowed 306 = .ok (.getfield 103, 3) := by decide +kernel
theorem dX9_rowed_309 : decode cX9_rowed 309 = .ok (.iload_n 3, 1) := by decide +kernel
theorem dX9_rowed_310 : decode cX9_rowed 310 = .ok (.aaload, 1) := by decide +kernel
theorem dX9_rowed_311 : decode cX9_rowed 311 = .ok (.lload 7, 2) := by decide +kernel
theorem dX9_rowed_313 : decode cX9_rowed 313 = .ok (.l2i, 1) := by decide +kernel
theorem dX9_rowed_314 : decode cX9_rowed 314 = .ok (.laload, 1) := by decide +kernel
theorem dX9_rowed_315 : decode cX9_rowed 315 = .ok (.invokevirtual 90, 3) := by decide +kernel
theorem dX9_rowed_318 : decode cX9_rowed 318 = .ok (.iconst 0, 1) := by decide +kernel
theorem dX9_rowed_319 : decode cX9_rowed 319 = .ok (.ireturn, 1) := by decide +kernel
theorem dX9_copied_0 : decode cX9_copied 0 = .ok (.aload_n 0, 1) := by decide +kernel
theorem dX9_copied_1 : decode cX9_copied 1 = .ok (.iload_n 1, 1) := by decide +kernel
theorem dX9_copied_2 : decode cX9_copied 2 = .ok (.iconst 1, 1) := by decide +kernel
theorem dX9_copied_3 : decode cX9_copied 3 = .ok (.iadd, 1) := by decide +kernel
theorem dX9_copied_4 : decode cX9_copied 4 = .ok (.invokevirtual 94, 3) := by decide +kernel
theorem dX9_copied_7 : decode cX9_copied 7 = .ok (.ifCond .eq 23, 3) := by decide +kernel
theorem dX9_copied_10 : decode cX9_copied 10 = .ok (.aload_n 0, 1) := by decide +kernel
theorem dX9_copied_11 : decode cX9_copied 11 = .ok (.iload_n 1, 1) := by decide +kernel
theorem dX9_copied_12 : decode cX9_copied 12 = .ok (.iconst 3, 1) := by decide +kernel
theorem dX9_copied_13 : decode cX9_copied 13 = .ok (.iadd, 1) := by decide +kernel
theorem dX9_copied_14 : decode cX9_copied 14 = .ok (.invokevirtual 94, 3) := by decide +kernel
theorem dX9_copied_17 : decode cX9_copied 17 = .ok (.ifCond .eq 13, 3) := by decide +kernel
theorem dX9_copied_20 : decode cX9_copied 20 = .ok (.aload_n 0, 1) := by decide +kernel
theorem dX9_copied_21 : decode cX9_copied 21 = .ok (.iload_n 1, 1) := by decide +kernel
theorem dX9_copied_22 : decode cX9_copied 22 = .ok (.iconst 4, 1) := by decide +kernel
theorem dX9_copied_23 : decode cX9_copied 23 = .ok (.iadd, 1) := by decide +kernel
theorem dX9_copied_24 : decode cX9_copied 24 = .ok (.invokevirtual 94, 3) := by decide +kernel
theorem dX9_copied_27 : decode cX9_copied 27 = .ok (.ifCond .ne 5, 3) := by decide +kernel
theorem dX9_copied_30 : decode cX9_copied 30 = .ok (.iconst 4, 1) := by decide +kernel
theorem dX9_copied_31 : decode cX9_copied 31 = .ok (.ireturn, 1) := by decide +kernel
theorem dX9_copied_32 : decode cX9_copied 32 = .ok (.aload_n 0, 1) := by decide +kernel
theorem dX9_copied_33 : decode cX9_copied 33 = .ok (.getfield 100, 3) := by decide +kernel
theorem dX9_copied_36 : decode cX9_copied 36 = .ok (.iload_n 1, 1) := by decide +kernel
theorem dX9_copied_37 : decode cX9_copied 37 = .ok (.iaload, 1) := by decide +kernel
theorem dX9_copied_38 : decode cX9_copied 38 = .ok (.iconst 3, 1) := by decide +kernel
theorem dX9_copied_39 : decode cX9_copied 39 = .ok (.if_icmp .eq 15, 3) := by decide +kernel
theorem dX9_copied_42 : decode cX9_copied 42 = .ok (.aload_n 0, 1) := by decide +kernel
theorem dX9_copied_43 : decode cX9_copied 43 = .ok (.getfield 100, 3) := by decide +kernel
theorem dX9_copied_46 : decode cX9_copied 46 = .ok (.iload_n 1, 1) := by decide +kernel
theorem dX9_copied_47 : decode cX9_copied 47 = .ok (.iconst 2, 1) := by decide +kernel
theorem dX9_copied_48 : decode cX9_copied 48 = .ok (.iadd, 1) := by decide +kernel
theorem dX9_copied_49 : decode cX9_copied 49 = .ok (.iaload, 1) := by decide +kernel
theorem dX9_copied_50 : decode cX9_copied 50 = .ok (.iconst 3, 1) := by decide +kernel
theorem dX9_copied_51 : decode cX9_copied 51 = .ok (.if_icmp .ne 5, 3) := by decide +kernel
theorem dX9_copied_54 : decode cX9_copied 54 = .ok (.iconst 2, 1) := by decide +kernel
theorem dX9_copied_55 : decode cX9_copied 55 = .ok (.ireturn, 1) := by decide +kernel
theorem dX9_copied_56 : decode cX9_copied 56 = .ok (.aload_n 0, 1) := by decide +kernel
theorem dX9_copied_57 : decode cX9_copied 57 = .ok (.iload_n 1, 1) := by decide +kernel
theorem dX9_copied_58 : decode cX9_copied 58 = .ok (.invokevirtual 94, 3) := by decide +kernel
theorem dX9_copied_61 : decode cX9_copied 61 = .ok (.ifCond .ne 20, 3) := by decide +kernel
theorem dX9_copied_64 : decode cX9_copied 64 = .ok (.aload_n 0, 1) := by decide +kernel
theorem dX9_copied_65 : decode cX9_copied 65 = .ok (.getfield 100, 3) := by decide +kernel
theorem dX9_copied_68 : decode cX9_copied 68 = .ok (.iload_n 1, 1) := by decide +kernel
theorem dX9_copied_69 : decode cX9_copied 69 = .ok (.iaload, 1) := by decide +kernel
theorem dX9_copied_70 : decode cX9_copied 70 = .ok (.aload_n 0, 1) := by decide +kernel
theorem dX9_copied_71 : decode cX9_copied 71 = .ok (.getfield 100, 3) := by decide +kernel
theorem dX9_copied_74 : decode cX9_copied 74 = .ok (.iload_n 1, 1) := by decide +kernel
theorem dX9_copied_75 : decode cX9_copied 75 = .ok (.iconst 2, 1) := by decide +kernel
theorem dX9_copied_76 : decode cX9_copied 76 = .ok (.iadd, 1) := by decide +kernel
theorem dX9_copied_77 : decode cX9_copied 77 = .ok (.iaload, 1) := by decide +kernel
theorem dX9_copied_78 : decode cX9_copied 78 = .ok (.if_icmp .eq 5, 3) := by decide +kernel
theorem dX9_copied_81 : decode cX9_copied 81 = .ok (.iconst 4, 1) := by decide +kernel
theorem dX9_copied_82 : decode cX9_copied 82 = .ok (.ireturn, 1) := by decide +kernel
theorem dX9_copied_83 : decode cX9_copied 83 = .ok (.aload_n 0, 1) := by decide +kernel
theorem dX9_copied_84 : decode cX9_copied 84 = .ok (.getfield 97, 3) := by decide +kernel
theorem dX9_copied_87 : decode cX9_copied 87 = .ok (.iload_n 1, 1) := by decide +kernel
theorem dX9_copied_88 : decode cX9_copied 88 = .ok (.iconst 1, 1) := by decide +kernel
theorem dX9_copied_89 : decode cX9_copied 89 = .ok (.iadd, 1) := by decide +kernel
theorem dX9_copied_90 : decode cX9_copied 90 = .ok (.laload, 1) := by decide +kernel
theorem dX9_copied_91 : decode cX9_copied 91 = .ok (.lstore_n 2, 1) := by decide +kernel
theorem dX9_copied_92 : decode cX9_copied 92 = .ok (.aload_n 0, 1) := by decide +kernel
theorem dX9_copied_93 : decode cX9_copied 93 = .ok (.getfield 97, 3) := by decide +kernel
theorem dX9_copied_96 : decode cX9_copied 96 = .ok (.iload_n 1, 1) := by decide +kernel
theorem dX9_copied_97 : decode cX9_copied 97 = .ok (.iconst 3, 1) := by decide +kernel
theorem dX9_copied_98 : decode cX9_copied 98 = .ok (.iadd, 1) := by decide +kernel
theorem dX9_copied_99 : decode cX9_copied 99 = .ok (.laload, 1) := by decide +kernel
theorem dX9_copied_100 : decode cX9_copied 100 = .ok (.lstore 4, 2) := by decide +kernel
theorem dX9_copied_102 : decode cX9_copied 102 = .ok (.aload_n 0, 1) := by decide +kernel
theorem dX9_copied_103 : decode cX9_copied 103 = .ok (.getfield 97, 3) := by decide +kernel
theorem dX9_copied_106 : decode cX9_copied 106 = .ok (.iload_n 1, 1) := by decide +kernel
theorem dX9_copied_107 : decode cX9_copied 107 = .ok (.iconst 4, 1) := by decide +kernel
theorem dX9_copied_108 : decode cX9_copied 108 = .ok (.iadd, 1) := by decide +kernel
theorem dX9_copied_109 : decode cX9_copied 109 = .ok (.laload, 1) := by decide +kernel
theorem dX9_copied_110 : decode cX9_copied 110 = .ok (.lstore 6, 2) := by decide +kernel
theorem dX9_copied_112 : decode cX9_copied 112 = .ok (.aload_n 0, 1) := by decide +kernel
theorem dX9_copied_113 : decode cX9_copied 113 = .ok (.getfield 103, 3) := by decide +kernel
theorem dX9_copied_116 : decode cX9_copied 116 = .ok (.iload_n 1, 1) := by decide +kernel
theorem dX9_copied_117 : decode cX9_copied 117 = .ok (.aaload, 1) := by decide +kernel
theorem dX9_copied_118 : decode cX9_copied 118 = .ok (.astore 8, 2) := by decide +kernel
theorem dX9_copied_120 : decode cX9_copied 120 = .ok (.aload_n 0, 1) := by decide +kernel
theorem dX9_copied_121 : decode cX9_copied 121 = .ok (.getfield 103, 3) := by decide +kernel
theorem dX9_copied_124 : decode cX9_copied 124 = .ok (.iload_n 1, 1) := by decide +kernel
theorem dX9_copied_125 : decode cX9_copied 125 = .ok (.iconst 2, 1) := by decide +kernel
theorem dX9_copied_126 : decode cX9_copied 126 = .ok (.iadd, 1) := by decide +kernel
theorem dX9_copied_127 : decode cX9_copied 127 = .ok (.aaload, 1) := by decide +kernel
theorem dX9_copied_128 : decode cX9_copied 128 = .ok (.astore 9, 2) := by decide +kernel
theorem dX9_copied_130 : decode cX9_copied 130 = .ok (.lload 6, 2) := by decide +kernel
theorem dX9_copied_132 : decode cX9_copied 132 = .ok (.lconst 0, 1) := by decide +kernel
theorem dX9_copied_133 : decode cX9_copied 133 = .ok (.lcmp, 1) := by decide +kernel
theorem dX9_copied_134 : decode cX9_copied 134 = .ok (.ifCond .lt 61, 3) := by decide +kernel
theorem dX9_copied_137 : decode cX9_copied 137 = .ok (.lload_n 2, 1) := by decide +kernel
theorem dX9_copied_138 : decode cX9_copied 138 = .ok (.lconst 0, 1) := by decide +kernel
theorem dX9_copied_139 : decode cX9_copied 139 = .ok (.lcmp, 1) := by decide +kernel
theorem dX9_copied_140 : decode cX9_copied 140 = .ok (.ifCond .lt 55, 3) := by decide +kernel
theorem dX9_copied_143 : decode cX9_copied 143 = .ok (.lload 4, 2) := by decide +kernel
theorem dX9_copied_145 : decode cX9_copied 145 = .ok (.lconst 0, 1) := by decide +kernel
theorem dX9_copied_146 : decode cX9_copied 146 = .ok (.lcmp, 1) := by decide +kernel
theorem dX9_copied_147 : decode cX9_copied 147 = .ok (.ifCond .lt 48, 3) := by decide +kernel
theorem dX9_copied_150 : decode cX9_copied 150 = .ok (.lload 6, 2) := by decide +kernel
theorem dX9_copied_152 : decode cX9_copied 152 = .ok (.aload 8, 2) := by decide +kernel
theorem dX9_copied_154 : decode cX9_copied 154 = .ok (.arraylength, 1) := by decide +kernel
theorem dX9_copied_155 : decode cX9_copied 155 = .ok (.i2l, 1) := by decide +kernel
theorem dX9_copied_156 : decode cX9_copied 156 = .ok (.lcmp, 1) := by decide +kernel
theorem dX9_copied_157 : decode cX9_copied 157 = .ok (.ifCond .gt 38, 3) := by decide +kernel
theorem dX9_copied_160 : decode cX9_copied 160 = .ok (.lload 6, 2) := by decide +kernel
theorem dX9_copied_162 : decode cX9_copied 162 = .ok (.aload 9, 2) := by decide +kernel
theorem dX9_copied_164 : decode cX9_copied 164 = .ok (.arraylength, 1) := by decide +kernel
theorem dX9_copied_165 : decode cX9_copied 165 = .ok (.i2l, 1) := by decide +kernel
theorem dX9_copied_166 : decode cX9_copied 166 = .ok (.lcmp, 1) := by decide +kernel
theorem dX9_copied_167 : decode cX9_copied 167 = .ok (.ifCond .gt 28, 3) := by decide +kernel
theorem dX9_copied_170 : decode cX9_copied 170 = .ok (.lload_n 2, 1) := by decide +kernel
theorem dX9_copied_171 : decode cX9_copied 171 = .ok (.aload 8, 2) := by decide +kernel
theorem dX9_copied_173 : decode cX9_copied 173 = .ok (.arraylength, 1) := by decide +kernel
theorem dX9_copied_174 : decode cX9_copied 174 = .ok (.i2l, 1) := by decide +kernel
theorem dX9_copied_175 : decode cX9_copied 175 = .ok (.lload 6, 2) := by decide +kernel
theorem dX9_copied_177 : decode cX9_copied 177 = .ok (.lsub, 1) := by decide +kernel
theorem dX9_copied_178 : decode cX9_copied 178 = .ok (.lcmp, 1) := by decide +kernel
theorem dX9_copied_179 : decode cX9_copied 179 = .ok (.ifCond .gt 16, 3) := by decide +kernel
theorem dX9_copied_182 : decode cX9_copied 182 = .ok (.lload 4, 2) := by decide +kernel
theorem dX9_copied_184 : decode cX9_copied 184 = .ok (.aload 9, 2) := by decide +kernel
theorem dX9_copied_186 : decode cX9_copied 186 = .ok (.arraylength, 1) := by decide +kernel
theorem dX9_copied_187 : decode cX9_copied 187 = .ok (.i2l, 1) := by decide +kernel
theorem dX9_copied_188 : decode cX9_copied 188 = .ok (.lload 6, 2) := by decide +kernel
theorem dX9_copied_190 : decode cX9_copied 190 = .ok (.lsub, 1) := by decide +kernel
theorem dX9_copied_191 : decode cX9_copied 191 = .ok (.lcmp, 1) := by decide +kernel
theorem dX9_copied_192 : decode cX9_copied 192 = .ok (.ifCond .le 5, 3) := by decide +kernel
theorem dX9_copied_195 : decode cX9_copied 195 = .ok (.iconst 3, 1) := by decide +kernel
theorem dX9_copied_196 : decode cX9_copied 196 = .ok (.ireturn, 1) := by decide +kernel
theorem dX9_copied_197 : decode cX9_copied 197 = .ok (.lload 6, 2) := by decide +kernel
theorem dX9_copied_199 : decode cX9_copied 199 = .ok (.l2i, 1) := by decide +kernel
theorem dX9_copied_200 : decode cX9_copied 200 = .ok (.newarray .long, 2) := by decide +kernel
theorem dX9_copied_202 : decode cX9_copied 202 = .ok (.astore 10, 2) := by decide +kernel
theorem dX9_copied_204 : decode cX9_copied 204 = .ok (.iconst 0, 1) := by decide +kernel
theorem dX9_copied_205 : decode cX9_copied 205 = .ok (.istore 11, 2) := by decide +kernel
theorem dX9_copied_207 : decode cX9_copied 207 = .ok (.iload 11, 2) := by decide +kernel
theorem dX9_copied_209 : decode cX9_copied 209 = .ok (.i2l, 1) := by decide +kernel
theorem dX9_copied_210 : decode cX9_copied 210 = .ok (.lload 6, 2) := by decide +kernel
theorem dX9_copied_212 : decode cX9_copied 212 = .ok (.lcmp, 1) := by decide +kernel
theorem dX9_copied_213 : decode cX9_copied 213 = .ok (.ifCond .ge 22, 3) := by decide +kernel
theorem dX9_copied_216 : decode cX9_copied 216 = .ok (.aload 10, 2) := by decide +kernel
theorem dX9_copied_218 : decode cX9_copied 218 = .ok (.iload 11, 2) := by decide +kernel
theorem dX9_copied_220 : decode cX9_copied 220 = .ok (.aload 8, 2) := by decide +kernel
theorem dX9_copied_222 : decode cX9_copied 222 = .ok (.lload_n 2, 1) := by decide +kernel
theorem dX9_copied_223 : decode cX9_copied 223 = .ok (.l2i, 1) := by decide +kernel
theorem dX9_copied_224 : decode cX9_copied 224 = .ok (.iload 11, 2) := by decide +kernel
theorem dX9_copied_226 : decode cX9_copied 226 = .ok (.iadd, 1) := by decide +kernel
theorem dX9_copied_227 : decode cX9_copied 227 = .ok (.laload, 1) := by decide +kernel
theorem dX9_copied_228 : decode cX9_copied 228 = .ok (.lastore, 1) := by decide +kernel
theorem dX9_copied_229 : decode cX9_copied 229 = .ok (.iinc 11 1, 3) := by decide +kernel
theorem dX9_copied_232 : decode cX9_copied 232 = .ok (.goto (-25), 3) := by decide +kernel
theorem dX9_copied_235 : decode cX9_copied 235 = .ok (.iconst 0, 1) := by decide +kernel
theorem dX9_copied_236 : decode cX9_copied 236 = .ok (.istore 11, 2) := by decide +kernel
theorem dX9_copied_238 : decode cX9_copied 238 = .ok (.iload 11, 2) := by decide +kernel
theorem dX9_copied_240 : decode cX9_copied 240 = .ok (.i2l, 1) := by decide +kernel
theorem dX9_copied_241 : decode cX9_copied 241 = .ok (.lload 6, 2) := by decide +kernel
theorem dX9_copied_243 : decode cX9_copied 243 = .ok (.lcmp, 1) := by decide +kernel
theorem dX9_copied_244 : decode cX9_copied 244 = .ok (.ifCond .ge 23, 3) := by decide +kernel
theorem dX9_copied_247 : decode cX9_copied 247 = .ok (.aload 9, 2) := by decide +kernel
theorem dX9_copied_249 : decode cX9_copied 249 = .ok (.lload 4, 2) := by decide +kernel
theorem dX9_copied_251 : decode cX9_copied 251 = .ok (.l2i, 1) := by decide +kernel
theorem dX9_copied_252 : decode cX9_copied 252 = .ok (.iload 11, 2) := by decide +kernel
theorem dX9_copied_254 : decode cX9_copied 254 = .ok (.iadd, 1) := by decide +kernel
theorem dX9_copied_255 : decode cX9_copied 255 = .ok (.aload 10, 2) := by decide +kernel
theorem dX9_copied_257 : decode cX9_copied 257 = .ok (.iload 11, 2) := by decide +kernel
theorem dX9_copied_259 : decode cX9_copied 259 = .ok (.laload, 1) := by decide +kernel
theorem dX9_copied_260 : decode cX9_copied 260 = .ok (.lastore, 1) := by decide +kernel
theorem dX9_copied_261 : decode cX9_copied 261 = .ok (.iinc 11 1, 3) := by decide +kernel
theorem dX9_copied_264 : decode cX9_copied 264 = .ok (.goto (-26), 3) := by decide +kernel
theorem dX9_copied_267 : decode cX9_copied 267 = .ok (.iconst 0, 1) := by decide +kernel
theorem dX9_copied_268 : decode cX9_copied 268 = .ok (.ireturn, 1) := by decide +kernel
theorem dX9_calls_0 : decode cX9_calls 0 = .ok (.aload_n 1, 1) := by decide +kernel
theorem dX9_calls_1 : decode cX9_calls 1 = .ok (.iload_n 3, 1) := by decide +kernel
theorem dX9_calls_2 : decode cX9_calls 2 = .ok (.iconst 1, 1) := by decide +kernel
theorem dX9_calls_3 : decode cX9_calls 3 = .ok (.iadd, 1) := by decide +kernel
theorem dX9_calls_4 : decode cX9_calls 4 = .ok (.invokevirtual 94, 3) := by decide +kernel
theorem dX9_calls_7 : decode cX9_calls 7 = .ok (.ifCond .eq 11, 3) := by decide +kernel
theorem dX9_calls_10 : decode cX9_calls 10 = .ok (.aload_n 1, 1) := by decide +kernel
theorem dX9_calls_11 : decode cX9_calls 11 = .ok (.iload_n 3, 1) := by decide +kernel
theorem dX9_calls_12 : decode cX9_calls 12 = .ok (.invokevirtual 94, 3) := by decide +kernel
theorem dX9_calls_15 : decode cX9_calls 15 = .ok (.ifCond .ne 5, 3) := by decide +kernel
theorem dX9_calls_18 : decode cX9_calls 18 = .ok (.iconst 4, 1) := by decide +kernel
theorem dX9_calls_19 : decode cX9_calls 19 = .ok (.ireturn, 1) := by decide +kernel
theorem dX9_calls_20 : decode cX9_calls 20 = .ok (.aload_n 1, 1) := by decide +kernel
theorem dX9_calls_21 : decode cX9_calls 21 = .ok (.getfield 97, 3) := by decide +kernel
theorem dX9_calls_24 : decode cX9_calls 24 = .ok (.iload_n 3, 1) := by decide +kernel
theorem dX9_calls_25 : decode cX9_calls 25 = .ok (.laload, 1) := by decide +kernel
theorem dX9_calls_26 : decode cX9_calls 26 = .ok (.lstore 4, 2) := by decide +kernel
theorem dX9_calls_28 : decode cX9_calls 28 = .ok (.lload 4, 2) := by decide +kernel
theorem dX9_calls_30 : decode cX9_calls 30 = .ok (.lconst 0, 1) := by decide +kernel
theorem dX9_calls_31 : decode cX9_calls 31 = .ok (.lcmp, 1) := by decide +kernel
theorem dX9_calls_32 : decode cX9_calls 32 = .ok (.ifCond .lt 18, 3) := by decide +kernel
theorem dX9_calls_35 : decode cX9_calls 35 = .ok (.lload 4, 2) := by decide +kernel
theorem dX9_calls_37 : decode cX9_calls 37 = .ok (.aload_n 0, 1) := by decide +kernel
theorem dX9_calls_38 : decode cX9_calls 38 = .ok (.getfield 27, 3) := by decide +kernel
theorem dX9_calls_41 : decode cX9_calls 41 = .ok (.aload_n 1, 1) := by decide +kernel
theorem dX9_calls_42 : decode cX9_calls 42 = .ok (.getfield 67, 3) := by decide +kernel
theorem dX9_calls_45 : decode cX9_calls 45 = .ok (.laload, 1) := by decide +kernel
theorem dX9_calls_46 : decode cX9_calls 46 = .ok (.lcmp, 1) := by decide +kernel
theorem dX9_calls_47 : decode cX9_calls 47 = .ok (.ifCond .le 6, 3) := by decide +kernel
theorem dX9_calls_50 : decode cX9_calls 50 = .ok (.bipush 9, 2) := by decide +kernel
theorem dX9_calls_52 : decode cX9_calls 52 = .ok (.ireturn, 1) := by decide +kernel
theorem dX9_calls_53 : decode cX9_calls 53 = .ok (.iload_n 2, 1) := by decide +kernel
theorem dX9_calls_54 : decode cX9_calls 54 = .ok (.iconst 3, 1) := by decide +kernel
theorem dX9_calls_55 : decode cX9_calls 55 = .ok (.ishr, 1) := by decide +kernel
theorem dX9_calls_56 : decode cX9_calls 56 = .ok (.istore 6, 2) := by decide +kernel
theorem dX9_calls_58 : decode cX9_calls 58 = .ok (.iload_n 2, 1) := by decide +kernel
theorem dX9_calls_59 : decode cX9_calls 59 = .ok (.bipush 7, 2) := by decide +kernel
theorem dX9_calls_61 : decode cX9_calls 61 = .ok (.iand, 1) := by decide +kernel
theorem dX9_calls_62 : decode cX9_calls 62 = .ok (.istore 7, 2) := by decide +kernel
theorem dX9_calls_64 : decode cX9_calls 64 = .ok (.iload 6, 2) := by decide +kernel
theorem dX9_calls_66 : decode cX9_calls 66 = .ok (.iconst 0, 1) := by decide +kernel
theorem dX9_calls_67 : decode cX9_calls 67 = .ok (.bipush 7, 2) := by decide +kernel
theorem dX9_calls_69 : decode cX9_calls 69 = .ok (.invokestatic 49, 3) := by decide +kernel
theorem dX9_calls_72 : decode cX9_calls 72 = .ok (.ifCond .eq 10, 3) := by decide +kernel
theorem dX9_calls_75 : decode cX9_calls 75 = .ok (.iload 7, 2) := by decide +kernel
theorem dX9_calls_77 : decode cX9_calls 77 = .ok (.bipush 6, 2) := by decide +kernel
theorem dX9_calls_79 : decode cX9_calls 79 = .ok (.if_icmp .lt 6, 3) := by decide +kernel
theorem dX9_calls_82 : decode cX9_calls 82 = .ok (.bipush 12, 2) := by decide +kernel
theorem dX9_calls_84 : decode cX9_calls 84 = .ok (.ireturn, 1) := by decide +kernel
theorem dX9_calls_85 : decode cX9_calls 85 = .ok (.aload_n 0, 1) := by decide +kernel
theorem dX9_calls_86 : decode cX9_calls 86 = .ok (.getfield 19, 3) := by decide +kernel
theorem dX9_calls_89 : decode cX9_calls 89 = .ok (.iload 6, 2) := by decide +kernel
theorem dX9_calls_91 : decode cX9_calls 91 = .ok (.baload, 1) := by decide +kernel
theorem dX9_calls_92 : decode cX9_calls 92 = .ok (.ifCond .eq 16, 3) := by decide +kernel
theorem dX9_calls_95 : decode cX9_calls 95 = .ok (.aload_n 0, 1) := by decide +kernel
theorem dX9_calls_96 : decode cX9_calls 96 = .ok (.getfield 30, 3) := by decide +kernel
theorem dX9_calls_99 : decode cX9_calls 99 = .ok (.iload 6, 2) := by decide +kernel
theorem dX9_calls_101 : decode cX9_calls 101 = .ok (.iaload, 1) := by decide +kernel
theorem dX9_calls_102 : decode cX9_calls 102 = .ok (.ifCond .le 6, 3) := by decide +kernel
theorem dX9_calls_105 : decode cX9_calls 105 = .ok (.bipush 8, 2) := by decide +kernel
theorem dX9_calls_107 : decode cX9_calls 107 = .ok (.ireturn, 1) := by decide +kernel
theorem dX9_calls_108 : decode cX9_calls 108 = .ok (.aload_n 0, 1) := by decide +kernel
theorem dX9_calls_109 : decode cX9_calls 109 = .ok (.getfield 156, 3) := by decide +kernel
theorem dX9_calls_112 : decode cX9_calls 112 = .ok (.bipush 10, 2) := by decide +kernel
theorem dX9_calls_114 : decode cX9_calls 114 = .ok (.if_icmp .ne 6, 3) := by decide +kernel
theorem dX9_calls_117 : decode cX9_calls 117 = .ok (.bipush 10, 2) := by decide +kernel
theorem dX9_calls_119 : decode cX9_calls 119 = .ok (.ireturn, 1) := by decide +kernel
theorem dX9_calls_120 : decode cX9_calls 120 = .ok (.iload 6, 2) := by decide +kernel
theorem dX9_calls_122 : decode cX9_calls 122 = .ok (.aload_n 1, 1) := by decide +kernel
theorem dX9_calls_123 : decode cX9_calls 123 = .ok (.getfield 67, 3) := by decide +kernel
theorem dX9_calls_126 : decode cX9_calls 126 = .ok (.if_icmp .eq 23, 3) := by decide +kernel
theorem dX9_calls_129 : decode cX9_calls 129 = .ok (.aload_n 0, 1) := by decide +kernel
theorem dX9_calls_130 : decode cX9_calls 130 = .ok (.getfield 27, 3) := by decide +kernel
theorem dX9_calls_133 : decode cX9_calls 133 = .ok (.iload 6, 2) := by decide +kernel
theorem dX9_calls_135 : decode cX9_calls 135 = .ok (.laload, 1) := by decide +kernel
theorem dX9_calls_136 : decode cX9_calls 136 = .ok (.ldc2_w 160, 3) := by decide +kernel
theorem dX9_calls_139 : decode cX9_calls 139 = .ok (.lload 4, 2) := by decide +kernel
theorem dX9_calls_141 : decode cX9_calls 141 = .ok (.lsub, 1) := by decide +kernel
theorem dX9_calls_142 : decode cX9_calls 142 = .ok (.lcmp, 1) := by decide +kernel
theorem dX9_calls_143 : decode cX9_calls 143 = .ok (.ifCond .le 6, 3) := by decide +kernel
theorem dX9_calls_146 : decode cX9_calls 146 = .ok (.bipush 6, 2) := by decide +kernel
theorem dX9_calls_148 : decode cX9_calls 148 = .ok (.ireturn, 1) := by decide +kernel
theorem dX9_calls_149 : decode cX9_calls 149 = .ok (.lconst 0, 1) := by decide +kernel
theorem dX9_calls_150 : decode cX9_calls 150 = .ok (.aload_n 1, 1) := by decide +kernel
theorem dX9_calls_151 : decode cX9_calls 151 = .ok (.getfield 97, 3) := by decide +kernel
theorem dX9_calls_154 : decode cX9_calls 154 = .ok (.iload_n 3, 1) := by decide +kernel
theorem dX9_calls_155 : decode cX9_calls 155 = .ok (.iconst 1, 1) := by decide +kernel
theorem dX9_calls_156 : decode cX9_calls 156 = .ok (.iadd, 1) := by decide +kernel
theorem dX9_calls_157 : decode cX9_calls 157 = .ok (.laload, 1) := by decide +kernel
theorem dX9_calls_158 : decode cX9_calls 158 = .ok (.aload_n 1, 1) := by decide +kernel
theorem dX9_calls_159 : decode cX9_calls 159 = .ok (.getfield 61, 3) := by decide +kernel
theorem dX9_calls_162 : decode cX9_calls 162 = .ok (.i2l, 1) := by decide +kernel
theorem dX9_calls_163 : decode cX9_calls 163 = .ok (.invokestatic 162, 3) := by decide +kernel
theorem dX9_calls_166 : decode cX9_calls 166 = .ok (.invokestatic 165, 3) := by decide +kernel
theorem dX9_calls_169 : decode cX9_calls 169 = .ok (.lstore 8, 2) := by decide +kernel
theorem dX9_calls_171 : decode cX9_calls 171 = .ok (.aload_n 0, 1) := by decide +kernel
theorem dX9_calls_172 : decode cX9_calls 172 = .ok (.iload 6, 2) := by decide +kernel
theorem dX9_calls_174 : decode cX9_calls 174 = .ok (.aload_n 1, 1) := by decide +kernel
theorem dX9_calls_175 : decode cX9_calls 175 = .ok (.getfield 67, 3) := by decide +kernel
theorem dX9_calls_178 : decode cX9_calls 178 = .ok (.iload 7, 2) := by decide +kernel
theorem dX9_calls_180 : decode cX9_calls 180 = .ok (.lload 8, 2) := by decide +kernel
theorem dX9_calls_182 : decode cX9_calls 182 = .ok (.l2i, 1) := by decide +kernel
theorem dX9_calls_183 : decode cX9_calls 183 = .ok (.invokevirtual 168, 3) := by decide +kernel
theorem dX9_calls_186 : decode cX9_calls 186 = .ok (.astore 10, 2) := by decide +kernel
theorem dX9_calls_188 : decode cX9_calls 188 = .ok (.aload_n 1, 1) := by decide +kernel
theorem dX9_calls_189 : decode cX9_calls 189 = .ok (.getfield 103, 3) := by decide +kernel
theorem dX9_calls_192 : decode cX9_calls 192 = .ok (.iload_n 3, 1) := by decide +kernel
theorem dX9_calls_193 : decode cX9_calls 193 = .ok (.iconst 2, 1) := by decide +kernel
theorem dX9_calls_194 : decode cX9_calls 194 = .ok (.iadd, 1) := by decide +kernel
theorem dX9_calls_195 : decode cX9_calls 195 = .ok (.aaload, 1) := by decide +kernel
theorem dX9_calls_196 : decode cX9_calls 196 = .ok (.astore 11, 2) := by decide +kernel
theorem dX9_calls_198 : decode cX9_calls 198 = .ok (.aconst_null, 1) := by decide +kernel
theorem dX9_calls_199 : decode cX9_calls 199 = .ok (.astore 12, 2) := by decide +kernel
theorem dX9_calls_201 : decode cX9_calls 201 = .ok (.aload_n 1, 1) := by decide +kernel
theorem dX9_calls_202 : decode cX9_calls 202 = .ok (.getfield 100, 3) := by decide +kernel
theorem dX9_calls_205 : decode cX9_calls 205 = .ok (.iload_n 3, 1) := by decide +kernel
theorem dX9_calls_206 : decode cX9_calls 206 = .ok (.iconst 2, 1) := by decide +kernel
theorem dX9_calls_207 : decode cX9_calls 207 = .ok (.iadd, 1) := by decide +kernel
theorem dX9_calls_208 : decode cX9_calls 208 = .ok (.iaload, 1) := by decide +kernel
theorem dX9_calls_209 : decode cX9_calls 209 = .ok (.iconst 1, 1) := by decide +kernel
theorem dX9_calls_210 : decode cX9_calls 210 = .ok (.if_icmp .eq 15, 3) := by decide +kernel
theorem dX9_calls_213 : decode cX9_calls 213 = .ok (.aload_n 1, 1) := by decide +kernel
theorem dX9_calls_214 : decode cX9_calls 214 = .ok (.getfield 100, 3) := by decide +kernel
theorem dX9_calls_217 : decode cX9_calls 217 = .ok (.iload_n 3, 1) := by decide +kernel
theorem dX9_calls_218 : decode cX9_calls 218 = .ok (.iconst 2, 1) := by decide +kernel
theorem dX9_calls_219 : decode cX9_calls 219 = .ok (.iadd, 1) := by decide +kernel
theorem dX9_calls_220 : decode cX9_calls 220 = .ok (.iaload, 1) := by decide +kernel
theorem dX9_calls_221 : decode cX9_calls 221 = .ok (.iconst 2, 1) := by decide +kernel
theorem dX9_calls_222 : decode cX9_calls 222 = .ok (.if_icmp .ne 22, 3) := by decide +kernel
theorem dX9_calls_225 : decode cX9_calls 225 = .ok (.aload 11, 2) := by decide +kernel
theorem dX9_calls_227 : decode cX9_calls 227 = .ok (.arraylength, 1) := by decide +kernel
theorem dX9_calls_228 : decode cX9_calls 228 = .ok (.newarray .long, 2) := by decide +kernel
theorem dX9_calls_230 : decode cX9_calls 230 = .ok (.astore 12, 2) := by decide +kernel
theorem dX9_calls_232 : decode cX9_calls 232 = .ok (.aload 11, 2) := by decide +kernel
theorem dX9_calls_234 : decode cX9_calls 234 = .ok (.iconst 0, 1) := by decide +kernel
theorem dX9_calls_235 : decode cX9_calls 235 = .ok (.aload 12, 2) := by decide +kernel
theorem dX9_calls_237 : decode cX9_calls 237 = .ok (.iconst 0, 1) := by decide +kernel
theorem dX9_calls_238 : decode cX9_calls 238 = .ok (.aload 11, 2) := by decide +kernel
theorem dX9_calls_240 : decode cX9_calls 240 = .ok (.arraylength, 1) := by decide +kernel
theorem dX9_calls_241 : decode cX9_calls 241 = .ok (.invokestatic 172, 3) := by decide +kernel
theorem dX9_calls_244 : decode cX9_calls 244 = .ok (.aload 10, 2) := by decide +kernel
theorem dX9_calls_246 : decode cX9_calls 246 = .ok (.aload_n 1, 1) := by decide +kernel
theorem dX9_calls_247 : decode cX9_calls 247 = .ok (.getfield 100, 3) := by decide +kernel
theorem dX9_calls_250 : decode cX9_calls 250 = .ok (.iload_n 3, 1) := by decide +kernel
theorem dX9_calls_251 : decode cX9_calls 251 = .ok (.iconst 2, 1) := by decide +kernel
theorem dX9_calls_252 : decode cX9_calls 252 = .ok (.iadd, 1) := by decide +kernel
theorem dX9_calls_253 : decode cX9_calls 253 = .ok (.iaload, 1) := by decide +kernel
theorem dX9_calls_254 : decode cX9_calls 254 = .ok (.aload_n 1, 1) := by decide +kernel
theorem dX9_calls_255 : decode cX9_calls 255 = .ok (.getfield 97, 3) := by decide +kernel
theorem dX9_calls_258 : decode cX9_calls 258 = .ok (.iload_n 3, 1) := by decide +kernel
theorem dX9_calls_259 : decode cX9_calls 259 = .ok (.iconst 2, 1) := by decide +kernel
theorem dX9_calls_260 : decode cX9_calls 260 = .ok (.iadd, 1) := by decide +kernel
theorem dX9_calls_261 : decode cX9_calls 261 = .ok (.laload, 1) := by decide +kernel
theorem dX9_calls_262 : decode cX9_calls 262 = .ok (.aload 12, 2) := by decide +kernel
theorem dX9_calls_264 : decode cX9_calls 264 = .ok (.invokevirtual 107, 3) := by decide +kernel
theorem dX9_calls_267 : decode cX9_calls 267 = .ok (.aload_n 0, 1) := by decide +kernel
theorem dX9_calls_268 : decode cX9_calls 268 = .ok (.getfield 64, 3) := by decide +kernel
theorem dX9_calls_271 : decode cX9_calls 271 = .ok (.istore 13, 2) := by decide +kernel
theorem dX9_calls_273 : decode cX9_calls 273 = .ok (.aload_n 0, 1) := by decide +kernel
theorem dX9_calls_274 : decode cX9_calls 274 = .ok (.aload 10, 2) := by decide +kernel
theorem dX9_calls_276 : decode cX9_calls 276 = .ok (.lload 4, 2) := by decide +kernel
theorem dX9_calls_278 : decode cX9_calls 278 = .ok (.invokevirtual 178, 3) := by decide +kernel
theorem dX9_calls_281 : decode cX9_calls 281 = .ok (.istore 14, 2) := by decide +kernel
theorem dX9_calls_283 : decode cX9_calls 283 = .ok (.aload_n 1, 1) := by decide +kernel
theorem dX9_calls_284 : decode cX9_calls 284 = .ok (.dup, 1) := by decide +kernel
theorem dX9_calls_285 : decode cX9_calls 285 = .ok (.getfield 61, 3) := by decide +kernel
theorem dX9_calls_288 : decode cX9_calls 288 = .ok (.aload_n 0, 1) := by decide +kernel
theorem dX9_calls_289 : decode cX9_calls 289 = .ok (.getfield 64, 3) := by decide +kernel
theorem dX9_calls_292 : decode cX9_calls 292 = .ok (.iload 13, 2) := by decide +kernel
theorem dX9_calls_294 : decode cX9_calls 294 = .ok (.isub, 1) := by decide +kernel
theorem dX9_calls_295 : decode cX9_calls 295 = .ok (.isub, 1) := by decide +kernel
theorem dX9_calls_296 : decode cX9_calls 296 = .ok (.putfield 61, 3) := by decide +kernel
theorem dX9_calls_299 : decode cX9_calls 299 = .ok (.iload 14, 2) := by decide +kernel
theorem dX9_calls_301 : decode cX9_calls 301 = .ok (.bipush 100, 2) := by decide +kernel
theorem dX9_calls_303 : decode cX9_calls 303 = .ok (.if_icmp .ne 14, 3) := by decide +kernel
theorem dX9_calls_306 : decode cX9_calls 306 = .ok (.aload_n 1, 1) := by decide +kernel
theorem dX9_calls_307 : decode cX9_calls 307 = .ok (.aload 10, 2) := by decide +kernel
theorem dX9_calls_309 : decode cX9_calls 309 = .ok (.getfield 124, 3) := by decide +kernel
theorem dX9_calls_312 : decode cX9_calls 312 = .ok (.invokevirtual 90, 3) := by decide +kernel
theorem dX9_calls_315 : decode cX9_calls 315 = .ok (.iconst 0, 1) := by decide +kernel
theorem dX9_calls_316 : decode cX9_calls 316 = .ok (.ireturn, 1) := by decide +kernel
theorem dX9_calls_317 : decode cX9_calls 317 = .ok (.iload 14, 2) := by decide +kernel
theorem dX9_calls_319 : decode cX9_calls 319 = .ok (.bipush 99, 2) := by decide +kernel
theorem dX9_calls_321 : decode cX9_calls 321 = .ok (.if_icmp .ne 8, 3) := by decide +kernel
theorem dX9_calls_324 : decode cX9_calls 324 = .ok (.bipush 99, 2) := by decide +kernel
theorem dX9_calls_326 : decode cX9_calls 326 = .ok (.goto 6, 3) := by decide +kernel
theorem dX9_calls_329 : decode cX9_calls 329 = .ok (.iload 14, 2) := by decide +kernel
theorem dX9_calls_331 : decode cX9_calls 331 = .ok (.ineg, 1) := by decide +kernel
theorem dX9_calls_332 : decode cX9_calls 332 = .ok (.ireturn, 1) := by decide +kernel
theorem dX9_frame_0 : decode cX9_frame 0 = .ok (.aload_n 0, 1) := by decide +kernel
theorem dX9_frame_1 : decode cX9_frame 1 = .ok (.getfield 41, 3) := by decide +kernel
theorem dX9_frame_4 : decode cX9_frame 4 = .ok (.aload_n 0, 1) := by decide +kernel
theorem dX9_frame_5 : decode cX9_frame 5 = .ok (.getfield 156, 3) := by decide +kernel
theorem dX9_frame_8 : decode cX9_frame 8 = .ok (.aaload, 1) := by decide +kernel
theorem dX9_frame_9 : decode cX9_frame 9 = .ok (.ifnonnull 19, 3) := by decide +kernel
theorem dX9_frame_12 : decode cX9_frame 12 = .ok (.aload_n 0, 1) := by decide +kernel
theorem dX9_frame_13 : decode cX9_frame 13 = .ok (.getfield 41, 3) := by decide +kernel
theorem dX9_frame_16 : decode cX9_frame 16 = .ok (.aload_n 0, 1) := by decide +kernel
theorem dX9_frame_17 : decode cX9_frame 17 = .ok (.getfield 156, 3) := by decide +kernel
theorem dX9_frame_20 : decode cX9_frame 20 = .ok (.new 39, 3) := by decide +kernel
theorem dX9_frame_23 : decode cX9_frame 23 = .ok (.dup, 1) := by decide +kernel
theorem dX9_frame_24 : decode cX9_frame 24 = .ok (.invokespecial 182, 3) := by decide +kernel
theorem dX9_frame_27 : decode cX9_frame 27 = .ok (.aastore, 1) := by decide +kernel
theorem dX9_frame_28 : decode cX9_frame 28 = .ok (.aload_n 0, 1) := by decide +kernel
theorem dX9_frame_29 : decode cX9_frame 29 = .ok (.getfield 41, 3) := by decide +kernel
theorem dX9_frame_32 : decode cX9_frame 32 = .ok (.aload_n 0, 1) := by decide +kernel
theorem dX9_frame_33 : decode cX9_frame 33 = .ok (.getfield 156, 3) := by decide +kernel
theorem dX9_frame_36 : decode cX9_frame 36 = .ok (.aaload, 1) := by decide +kernel
theorem dX9_frame_37 : decode cX9_frame 37 = .ok (.iload_n 1, 1) := by decide +kernel
theorem dX9_frame_38 : decode cX9_frame 38 = .ok (.iload_n 2, 1) := by decide +kernel
theorem dX9_frame_39 : decode cX9_frame 39 = .ok (.iload_n 3, 1) := by decide +kernel
theorem dX9_frame_40 : decode cX9_frame 40 = .ok (.iload 4, 2) := by decide +kernel
theorem dX9_frame_42 : decode cX9_frame 42 = .ok (.invokevirtual 183, 3) := by decide +kernel
theorem dX9_frame_45 : decode cX9_frame 45 = .ok (.aload_n 0, 1) := by decide +kernel
theorem dX9_frame_46 : decode cX9_frame 46 = .ok (.getfield 41, 3) := by decide +kernel
theorem dX9_frame_49 : decode cX9_frame 49 = .ok (.aload_n 0, 1) := by decide +kernel
theorem dX9_frame_50 : decode cX9_frame 50 = .ok (.getfield 156, 3) := by decide +kernel
theorem dX9_frame_53 : decode cX9_frame 53 = .ok (.aaload, 1) := by decide +kernel
theorem dX9_frame_54 : decode cX9_frame 54 = .ok (.areturn, 1) := by decide +kernel
theorem dX9_ran_0 : decode cX9_ran 0 = .ok (.aload_n 0, 1) := by decide +kernel
theorem dX9_ran_1 : decode cX9_ran 1 = .ok (.getfield 23, 3) := by decide +kernel
theorem dX9_ran_4 : decode cX9_ran 4 = .ok (.iconst 0, 1) := by decide +kernel
theorem dX9_ran_5 : decode cX9_ran 5 = .ok (.aload_n 1, 1) := by decide +kernel
theorem dX9_ran_6 : decode cX9_ran 6 = .ok (.getfield 187, 3) := by decide +kernel
theorem dX9_ran_9 : decode cX9_ran 9 = .ok (.iconst 0, 1) := by decide +kernel
theorem dX9_ran_10 : decode cX9_ran 10 = .ok (.aload_n 0, 1) := by decide +kernel
theorem dX9_ran_11 : decode cX9_ran 11 = .ok (.getfield 23, 3) := by decide +kernel
theorem dX9_ran_14 : decode cX9_ran 14 = .ok (.arraylength, 1) := by decide +kernel
theorem dX9_ran_15 : decode cX9_ran 15 = .ok (.invokestatic 172, 3) := by decide +kernel
theorem dX9_ran_18 : decode cX9_ran 18 = .ok (.aload_n 0, 1) := by decide +kernel
theorem dX9_ran_19 : decode cX9_ran 19 = .ok (.getfield 27, 3) := by decide +kernel
theorem dX9_ran_22 : decode cX9_ran 22 = .ok (.iconst 0, 1) := by decide +kernel
theorem dX9_ran_23 : decode cX9_ran 23 = .ok (.aload_n 1, 1) := by decide +kernel
theorem dX9_ran_24 : decode cX9_ran 24 = .ok (.getfield 190, 3) := by decide +kernel
theorem dX9_ran_27 : decode cX9_ran 27 = .ok (.iconst 0, 1) := by decide +kernel
theorem dX9_ran_28 : decode cX9_ran 28 = .ok (.aload_n 0, 1) := by decide +kernel
theorem dX9_ran_29 : decode cX9_ran 29 = .ok (.getfield 27, 3) := by decide +kernel
theorem dX9_ran_32 : decode cX9_ran 32 = .ok (.arraylength, 1) := by decide +kernel
theorem dX9_ran_33 : decode cX9_ran 33 = .ok (.invokestatic 172, 3) := by decide +kernel
theorem dX9_ran_36 : decode cX9_ran 36 = .ok (.aload_n 0, 1) := by decide +kernel
theorem dX9_ran_37 : decode cX9_ran 37 = .ok (.getfield 128, 3) := by decide +kernel
theorem dX9_ran_40 : decode cX9_ran 40 = .ok (.istore 4, 2) := by decide +kernel
theorem dX9_ran_42 : decode cX9_ran 42 = .ok (.aload_n 1, 1) := by decide +kernel
theorem dX9_ran_43 : decode cX9_ran 43 = .ok (.getfield 134, 3) := by decide +kernel
theorem dX9_ran_46 : decode cX9_ran 46 = .ok (.ifCond .lt 29, 3) := by decide +kernel
theorem dX9_ran_49 : decode cX9_ran 49 = .ok (.aload_n 0, 1) := by decide +kernel
theorem dX9_ran_50 : decode cX9_ran 50 = .ok (.getfield 27, 3) := by decide +kernel
theorem dX9_ran_53 : decode cX9_ran 53 = .ok (.aload_n 1, 1) := by decide +kernel
theorem dX9_ran_54 : decode cX9_ran 54 = .ok (.getfield 134, 3) := by decide +kernel
theorem dX9_ran_57 : decode cX9_ran 57 = .ok (.dup2, 1) := by decide +kernel
theorem dX9_ran_58 : decode cX9_ran 58 = .ok (.laload, 1) := by decide +kernel
theorem dX9_ran_59 : decode cX9_ran 59 = .ok (.lload_n 2, 1) := by decide +kernel
theorem dX9_ran_60 : decode cX9_ran 60 = .ok (.lsub, 1) := by decide +kernel
theorem dX9_ran_61 : decode cX9_ran 61 = .ok (.lastore, 1) := by decide +kernel
theorem dX9_ran_62 : decode cX9_ran 62 = .ok (.aload_n 0, 1) := by decide +kernel
theorem dX9_ran_63 : decode cX9_ran 63 = .ok (.getfield 27, 3) := by decide +kernel
theorem dX9_ran_66 : decode cX9_ran 66 = .ok (.aload_n 1, 1) := by decide +kernel
theorem dX9_ran_67 : decode cX9_ran 67 = .ok (.getfield 67, 3) := by decide +kernel
theorem dX9_ran_70 : decode cX9_ran 70 = .ok (.dup2, 1) := by decide +kernel
theorem dX9_ran_71 : decode cX9_ran 71 = .ok (.laload, 1) := by decide +kernel
theorem dX9_ran_72 : decode cX9_ran 72 = .ok (.lload_n 2, 1) := by decide +kernel
theorem dX9_ran_73 : decode cX9_ran 73 = .ok (.ladd, 1) := by decide +kernel
theorem dX9_ran_74 : decode cX9_ran 74 = .ok (.lastore, 1) := by decide +kernel
theorem dX9_ran_75 : decode cX9_ran 75 = .ok (.aload_n 0, 1) := by decide +kernel
theorem dX9_ran_76 : decode cX9_ran 76 = .ok (.dup, 1) := by decide +kernel
theorem dX9_ran_77 : decode cX9_ran 77 = .ok (.getfield 156, 3) := by decide +kernel
theorem dX9_ran_80 : decode cX9_ran 80 = .ok (.iconst 1, 1) := by decide +kernel
theorem dX9_ran_81 : decode cX9_ran 81 = .ok (.iadd, 1) := by decide +kernel
theorem dX9_ran_82 : decode cX9_ran 82 = .ok (.putfield 156, 3) := by decide +kernel
theorem dX9_ran_85 : decode cX9_ran 85 = .ok (.aload_n 0, 1) := by decide +kernel
theorem dX9_ran_86 : decode cX9_ran 86 = .ok (.getfield 30, 3) := by decide +kernel
theorem dX9_ran_89 : decode cX9_ran 89 = .ok (.aload_n 1, 1) := by decide +kernel
theorem dX9_ran_90 : decode cX9_ran 90 = .ok (.getfield 67, 3) := by decide +kernel
theorem dX9_ran_93 : decode cX9_ran 93 = .ok (.dup2, 1) := by decide +kernel
theorem dX9_ran_94 : decode cX9_ran 94 = .ok (.iaload, 1) := by decide +kernel
theorem dX9_ran_95 : decode cX9_ran 95 = .ok (.iconst 1, 1) := by decide +kernel
theorem dX9_ran_96 : decode cX9_ran 96 = .ok (.iadd, 1) := by decide +kernel
theorem dX9_ran_97 : decode cX9_ran 97 = .ok (.iastore, 1) := by decide +kernel
theorem dX9_ran_98 : decode cX9_ran 98 = .ok (.aload_n 0, 1) := by decide +kernel
