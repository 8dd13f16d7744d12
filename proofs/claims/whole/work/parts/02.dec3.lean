theorem dX12_shortest_12 : decode cX12_shortest 12 = .ok (.aload_n 0, 1) := by decide +kernel
theorem dX12_shortest_13 : decode cX12_shortest 13 = .ok (.getfield 17, 3) := by decide +kernel
theorem dX12_shortest_16 : decode cX12_shortest 16 = .ok (.iload_n 1, 1) := by decide +kernel
theorem dX12_shortest_17 : decode cX12_shortest 17 = .ok (.iaload, 1) := by decide +kernel
theorem dX12_shortest_18 : decode cX12_shortest 18 = .ok (.istore_n 3, 1) := by decide +kernel
theorem dX12_shortest_19 : decode cX12_shortest 19 = .ok (.iload_n 3, 1) := by decide +kernel
theorem dX12_shortest_20 : decode cX12_shortest 20 = .ok (.iconst 1, 1) := by decide +kernel
theorem dX12_shortest_21 : decode cX12_shortest 21 = .ok (.bipush 8, 2) := by decide +kernel
theorem dX12_shortest_23 : decode cX12_shortest 23 = .ok (.invokestatic 130, 3) := by decide +kernel
theorem dX12_shortest_26 : decode cX12_shortest 26 = .ok (.ifCond .ne 9, 3) := by decide +kernel
theorem dX12_shortest_29 : decode cX12_shortest 29 = .ok (.aload_n 0, 1) := by decide +kernel
theorem dX12_shortest_30 : decode cX12_shortest 30 = .ok (.iconst 5, 1) := by decide +kernel
theorem dX12_shortest_31 : decode cX12_shortest 31 = .ok (.invokevirtual 138, 3) := by decide +kernel
theorem dX12_shortest_34 : decode cX12_shortest 34 = .ok (.ireturn, 1) := by decide +kernel
theorem dX12_shortest_35 : decode cX12_shortest 35 = .ok (.iconst 1, 1) := by decide +kernel
theorem dX12_shortest_36 : decode cX12_shortest 36 = .ok (.istore 4, 2) := by decide +kernel
theorem dX12_shortest_38 : decode cX12_shortest 38 = .ok (.iconst 0, 1) := by decide +kernel
theorem dX12_shortest_39 : decode cX12_shortest 39 = .ok (.istore 5, 2) := by decide +kernel
theorem dX12_shortest_41 : decode cX12_shortest 41 = .ok (.iload 5, 2) := by decide +kernel
theorem dX12_shortest_43 : decode cX12_shortest 43 = .ok (.iload_n 3, 1) := by decide +kernel
theorem dX12_shortest_44 : decode cX12_shortest 44 = .ok (.if_icmp .ge 51, 3) := by decide +kernel
theorem dX12_shortest_47 : decode cX12_shortest 47 = .ok (.aload_n 0, 1) := by decide +kernel
theorem dX12_shortest_48 : decode cX12_shortest 48 = .ok (.getfield 23, 3) := by decide +kernel
theorem dX12_shortest_51 : decode cX12_shortest 51 = .ok (.iload 5, 2) := by decide +kernel
theorem dX12_shortest_53 : decode cX12_shortest 53 = .ok (.aload_n 0, 1) := by decide +kernel
theorem dX12_shortest_54 : decode cX12_shortest 54 = .ok (.iload_n 1, 1) := by decide +kernel
theorem dX12_shortest_55 : decode cX12_shortest 55 = .ok (.iload 5, 2) := by decide +kernel
theorem dX12_shortest_57 : decode cX12_shortest 57 = .ok (.invokevirtual 148, 3) := by decide +kernel
theorem dX12_shortest_60 : decode cX12_shortest 60 = .ok (.iastore, 1) := by decide +kernel
theorem dX12_shortest_61 : decode cX12_shortest 61 = .ok (.iload 4, 2) := by decide +kernel
theorem dX12_shortest_63 : decode cX12_shortest 63 = .ok (.ifCond .eq 23, 3) := by decide +kernel
theorem dX12_shortest_66 : decode cX12_shortest 66 = .ok (.aload_n 0, 1) := by decide +kernel
theorem dX12_shortest_67 : decode cX12_shortest 67 = .ok (.getfield 23, 3) := by decide +kernel
theorem dX12_shortest_70 : decode cX12_shortest 70 = .ok (.iload 5, 2) := by decide +kernel
theorem dX12_shortest_72 : decode cX12_shortest 72 = .ok (.iaload, 1) := by decide +kernel
theorem dX12_shortest_73 : decode cX12_shortest 73 = .ok (.iconst 1, 1) := by decide +kernel
theorem dX12_shortest_74 : decode cX12_shortest 74 = .ok (.bipush 99, 2) := by decide +kernel
theorem dX12_shortest_76 : decode cX12_shortest 76 = .ok (.invokestatic 130, 3) := by decide +kernel
theorem dX12_shortest_79 : decode cX12_shortest 79 = .ok (.ifCond .eq 7, 3) := by decide +kernel
theorem dX12_shortest_82 : decode cX12_shortest 82 = .ok (.iconst 1, 1) := by decide +kernel
theorem dX12_shortest_83 : decode cX12_shortest 83 = .ok (.goto 4, 3) := by decide +kernel
theorem dX12_shortest_86 : decode cX12_shortest 86 = .ok (.iconst 0, 1) := by decide +kernel
theorem dX12_shortest_87 : decode cX12_shortest 87 = .ok (.istore 4, 2) := by decide +kernel
theorem dX12_shortest_89 : decode cX12_shortest 89 = .ok (.iinc 5 1, 3) := by decide +kernel
theorem dX12_shortest_92 : decode cX12_shortest 92 = .ok (.goto (-51), 3) := by decide +kernel
theorem dX12_shortest_95 : decode cX12_shortest 95 = .ok (.iload 4, 2) := by decide +kernel
theorem dX12_shortest_97 : decode cX12_shortest 97 = .ok (.ifCond .ne 9, 3) := by decide +kernel
theorem dX12_shortest_100 : decode cX12_shortest 100 = .ok (.aload_n 0, 1) := by decide +kernel
theorem dX12_shortest_101 : decode cX12_shortest 101 = .ok (.iconst 3, 1) := by decide +kernel
theorem dX12_shortest_102 : decode cX12_shortest 102 = .ok (.invokevirtual 138, 3) := by decide +kernel
theorem dX12_shortest_105 : decode cX12_shortest 105 = .ok (.ireturn, 1) := by decide +kernel
theorem dX12_shortest_106 : decode cX12_shortest 106 = .ok (.iload_n 3, 1) := by decide +kernel
theorem dX12_shortest_107 : decode cX12_shortest 107 = .ok (.iconst 1, 1) := by decide +kernel
theorem dX12_shortest_108 : decode cX12_shortest 108 = .ok (.if_icmp .ne 10, 3) := by decide +kernel
theorem dX12_shortest_111 : decode cX12_shortest 111 = .ok (.aload_n 0, 1) := by decide +kernel
theorem dX12_shortest_112 : decode cX12_shortest 112 = .ok (.getfield 23, 3) := by decide +kernel
theorem dX12_shortest_115 : decode cX12_shortest 115 = .ok (.iconst 0, 1) := by decide +kernel
theorem dX12_shortest_116 : decode cX12_shortest 116 = .ok (.iaload, 1) := by decide +kernel
theorem dX12_shortest_117 : decode cX12_shortest 117 = .ok (.ireturn, 1) := by decide +kernel
theorem dX12_shortest_118 : decode cX12_shortest 118 = .ok (.iconst 0, 1) := by decide +kernel
theorem dX12_shortest_119 : decode cX12_shortest 119 = .ok (.istore 5, 2) := by decide +kernel
theorem dX12_shortest_121 : decode cX12_shortest 121 = .ok (.iload_n 3, 1) := by decide +kernel
theorem dX12_shortest_122 : decode cX12_shortest 122 = .ok (.istore 6, 2) := by decide +kernel
theorem dX12_shortest_124 : decode cX12_shortest 124 = .ok (.iload 6, 2) := by decide +kernel
theorem dX12_shortest_126 : decode cX12_shortest 126 = .ok (.iconst 1, 1) := by decide +kernel
theorem dX12_shortest_127 : decode cX12_shortest 127 = .ok (.if_icmp .le 149, 3) := by decide +kernel
theorem dX12_shortest_130 : decode cX12_shortest 130 = .ok (.iconst 0, 1) := by decide +kernel
theorem dX12_shortest_131 : decode cX12_shortest 131 = .ok (.istore 7, 2) := by decide +kernel
theorem dX12_shortest_133 : decode cX12_shortest 133 = .ok (.iload 7, 2) := by decide +kernel
theorem dX12_shortest_135 : decode cX12_shortest 135 = .ok (.iconst 2, 1) := by decide +kernel
theorem dX12_shortest_136 : decode cX12_shortest 136 = .ok (.if_icmp .ge 99, 3) := by decide +kernel
theorem dX12_shortest_139 : decode cX12_shortest 139 = .ok (.iconst 0, 1) := by decide +kernel
theorem dX12_shortest_140 : decode cX12_shortest 140 = .ok (.istore 8, 2) := by decide +kernel
theorem dX12_shortest_142 : decode cX12_shortest 142 = .ok (.iconst 0, 1) := by decide +kernel
theorem dX12_shortest_143 : decode cX12_shortest 143 = .ok (.istore 9, 2) := by decide +kernel
theorem dX12_shortest_145 : decode cX12_shortest 145 = .ok (.iload 9, 2) := by decide +kernel
theorem dX12_shortest_147 : decode cX12_shortest 147 = .ok (.iload 6, 2) := by decide +kernel
theorem dX12_shortest_149 : decode cX12_shortest 149 = .ok (.iload 7, 2) := by decide +kernel
theorem dX12_shortest_151 : decode cX12_shortest 151 = .ok (.isub, 1) := by decide +kernel
theorem dX12_shortest_152 : decode cX12_shortest 152 = .ok (.if_icmp .ge 35, 3) := by decide +kernel
theorem dX12_shortest_155 : decode cX12_shortest 155 = .ok (.aload_n 0, 1) := by decide +kernel
theorem dX12_shortest_156 : decode cX12_shortest 156 = .ok (.getfield 23, 3) := by decide +kernel
theorem dX12_shortest_159 : decode cX12_shortest 159 = .ok (.iload 9, 2) := by decide +kernel
theorem dX12_shortest_161 : decode cX12_shortest 161 = .ok (.iaload, 1) := by decide +kernel
theorem dX12_shortest_162 : decode cX12_shortest 162 = .ok (.aload_n 0, 1) := by decide +kernel
theorem dX12_shortest_163 : decode cX12_shortest 163 = .ok (.getfield 23, 3) := by decide +kernel
theorem dX12_shortest_166 : decode cX12_shortest 166 = .ok (.iload 8, 2) := by decide +kernel
theorem dX12_shortest_168 : decode cX12_shortest 168 = .ok (.iaload, 1) := by decide +kernel
theorem dX12_shortest_169 : decode cX12_shortest 169 = .ok (.if_icmp .ge 8, 3) := by decide +kernel
theorem dX12_shortest_172 : decode cX12_shortest 172 = .ok (.iload 9, 2) := by decide +kernel
theorem dX12_shortest_174 : decode cX12_shortest 174 = .ok (.goto 5, 3) := by decide +kernel
theorem dX12_shortest_177 : decode cX12_shortest 177 = .ok (.iload 8, 2) := by decide +kernel
theorem dX12_shortest_179 : decode cX12_shortest 179 = .ok (.istore 8, 2) := by decide +kernel
theorem dX12_shortest_181 : decode cX12_shortest 181 = .ok (.iinc 9 1, 3) := by decide +kernel
theorem dX12_shortest_184 : decode cX12_shortest 184 = .ok (.goto (-39), 3) := by decide +kernel
theorem dX12_shortest_187 : decode cX12_shortest 187 = .ok (.aload_n 0, 1) := by decide +kernel
theorem dX12_shortest_188 : decode cX12_shortest 188 = .ok (.getfield 23, 3) := by decide +kernel
theorem dX12_shortest_191 : decode cX12_shortest 191 = .ok (.iload 8, 2) := by decide +kernel
theorem dX12_shortest_193 : decode cX12_shortest 193 = .ok (.iaload, 1) := by decide +kernel
theorem dX12_shortest_194 : decode cX12_shortest 194 = .ok (.istore 9, 2) := by decide +kernel
theorem dX12_shortest_196 : decode cX12_shortest 196 = .ok (.aload_n 0, 1) := by decide +kernel
theorem dX12_shortest_197 : decode cX12_shortest 197 = .ok (.getfield 23, 3) := by decide +kernel
theorem dX12_shortest_200 : decode cX12_shortest 200 = .ok (.iload 8, 2) := by decide +kernel
theorem dX12_shortest_202 : decode cX12_shortest 202 = .ok (.aload_n 0, 1) := by decide +kernel
theorem dX12_shortest_203 : decode cX12_shortest 203 = .ok (.getfield 23, 3) := by decide +kernel
theorem dX12_shortest_206 : decode cX12_shortest 206 = .ok (.iload 6, 2) := by decide +kernel
theorem dX12_shortest_208 : decode cX12_shortest 208 = .ok (.iconst 1, 1) := by decide +kernel
theorem dX12_shortest_209 : decode cX12_shortest 209 = .ok (.isub, 1) := by decide +kernel
theorem dX12_shortest_210 : decode cX12_shortest 210 = .ok (.iload 7, 2) := by decide +kernel
theorem dX12_shortest_212 : decode cX12_shortest 212 = .ok (.isub, 1) := by decide +kernel
theorem dX12_shortest_213 : decode cX12_shortest 213 = .ok (.iaload, 1) := by decide +kernel
theorem dX12_shortest_214 : decode cX12_shortest 214 = .ok (.iastore, 1) := by decide +kernel
theorem dX12_shortest_215 : decode cX12_shortest 215 = .ok (.aload_n 0, 1) := by decide +kernel
theorem dX12_shortest_216 : decode cX12_shortest 216 = .ok (.getfield 23, 3) := by decide +kernel
theorem dX12_shortest_219 : decode cX12_shortest 219 = .ok (.iload 6, 2) := by decide +kernel
theorem dX12_shortest_221 : decode cX12_shortest 221 = .ok (.iconst 1, 1) := by decide +kernel
theorem dX12_shortest_222 : decode cX12_shortest 222 = .ok (.isub, 1) := by decide +kernel
theorem dX12_shortest_223 : decode cX12_shortest 223 = .ok (.iload 7, 2) := by decide +kernel
theorem dX12_shortest_225 : decode cX12_shortest 225 = .ok (.isub, 1) := by decide +kernel
theorem dX12_shortest_226 : decode cX12_shortest 226 = .ok (.iload 9, 2) := by decide +kernel
theorem dX12_shortest_228 : decode cX12_shortest 228 = .ok (.iastore, 1) := by decide +kernel
theorem dX12_shortest_229 : decode cX12_shortest 229 = .ok (.iinc 7 1, 3) := by decide +kernel
theorem dX12_shortest_232 : decode cX12_shortest 232 = .ok (.goto (-99), 3) := by decide +kernel
theorem dX12_shortest_235 : decode cX12_shortest 235 = .ok (.aload_n 0, 1) := by decide +kernel
theorem dX12_shortest_236 : decode cX12_shortest 236 = .ok (.getfield 23, 3) := by decide +kernel
theorem dX12_shortest_239 : decode cX12_shortest 239 = .ok (.iload 6, 2) := by decide +kernel
theorem dX12_shortest_241 : decode cX12_shortest 241 = .ok (.iconst 2, 1) := by decide +kernel
theorem dX12_shortest_242 : decode cX12_shortest 242 = .ok (.isub, 1) := by decide +kernel
theorem dX12_shortest_243 : decode cX12_shortest 243 = .ok (.dup2, 1) := by decide +kernel
theorem dX12_shortest_244 : decode cX12_shortest 244 = .ok (.iaload, 1) := by decide +kernel
theorem dX12_shortest_245 : decode cX12_shortest 245 = .ok (.aload_n 0, 1) := by decide +kernel
theorem dX12_shortest_246 : decode cX12_shortest 246 = .ok (.getfield 23, 3) := by decide +kernel
theorem dX12_shortest_249 : decode cX12_shortest 249 = .ok (.iload 6, 2) := by decide +kernel
theorem dX12_shortest_251 : decode cX12_shortest 251 = .ok (.iconst 1, 1) := by decide +kernel
theorem dX12_shortest_252 : decode cX12_shortest 252 = .ok (.isub, 1) := by decide +kernel
theorem dX12_shortest_253 : decode cX12_shortest 253 = .ok (.iaload, 1) := by decide +kernel
theorem dX12_shortest_254 : decode cX12_shortest 254 = .ok (.iadd, 1) := by decide +kernel
theorem dX12_shortest_255 : decode cX12_shortest 255 = .ok (.iastore, 1) := by decide +kernel
theorem dX12_shortest_256 : decode cX12_shortest 256 = .ok (.iload 5, 2) := by decide +kernel
theorem dX12_shortest_258 : decode cX12_shortest 258 = .ok (.aload_n 0, 1) := by decide +kernel
theorem dX12_shortest_259 : decode cX12_shortest 259 = .ok (.getfield 23, 3) := by decide +kernel
theorem dX12_shortest_262 : decode cX12_shortest 262 = .ok (.iload 6, 2) := by decide +kernel
theorem dX12_shortest_264 : decode cX12_shortest 264 = .ok (.iconst 2, 1) := by decide +kernel
theorem dX12_shortest_265 : decode cX12_shortest 265 = .ok (.isub, 1) := by decide +kernel
theorem dX12_shortest_266 : decode cX12_shortest 266 = .ok (.iaload, 1) := by decide +kernel
theorem dX12_shortest_267 : decode cX12_shortest 267 = .ok (.iadd, 1) := by decide +kernel
theorem dX12_shortest_268 : decode cX12_shortest 268 = .ok (.istore 5, 2) := by decide +kernel
theorem dX12_shortest_270 : decode cX12_shortest 270 = .ok (.iinc 6 (-1), 3) := by decide +kernel
theorem dX12_shortest_273 : decode cX12_shortest 273 = .ok (.goto (-149), 3) := by decide +kernel
theorem dX12_shortest_276 : decode cX12_shortest 276 = .ok (.iload 5, 2) := by decide +kernel
theorem dX12_shortest_278 : decode cX12_shortest 278 = .ok (.ireturn, 1) := by decide +kernel
theorem dX12_apartBy_0 : decode cX12_apartBy 0 = .ok (.iload_n 0, 1) := by decide +kernel
theorem dX12_apartBy_1 : decode cX12_apartBy 1 = .ok (.iload_n 1, 1) := by decide +kernel
theorem dX12_apartBy_2 : decode cX12_apartBy 2 = .ok (.ixor, 1) := by decide +kernel
theorem dX12_apartBy_3 : decode cX12_apartBy 3 = .ok (.invokestatic 168, 3) := by decide +kernel
theorem dX12_apartBy_6 : decode cX12_apartBy 6 = .ok (.istore_n 2, 1) := by decide +kernel
theorem dX12_apartBy_7 : decode cX12_apartBy 7 = .ok (.iload_n 0, 1) := by decide +kernel
theorem dX12_apartBy_8 : decode cX12_apartBy 8 = .ok (.iload_n 1, 1) := by decide +kernel
theorem dX12_apartBy_9 : decode cX12_apartBy 9 = .ok (.invokestatic 178, 3) := by decide +kernel
theorem dX12_apartBy_12 : decode cX12_apartBy 12 = .ok (.ixor, 1) := by decide +kernel
theorem dX12_apartBy_13 : decode cX12_apartBy 13 = .ok (.invokestatic 168, 3) := by decide +kernel
theorem dX12_apartBy_16 : decode cX12_apartBy 16 = .ok (.istore_n 3, 1) := by decide +kernel
theorem dX12_apartBy_17 : decode cX12_apartBy 17 = .ok (.iload_n 2, 1) := by decide +kernel
theorem dX12_apartBy_18 : decode cX12_apartBy 18 = .ok (.iload_n 3, 1) := by decide +kernel
theorem dX12_apartBy_19 : decode cX12_apartBy 19 = .ok (.if_icmp .ge 7, 3) := by decide +kernel
theorem dX12_apartBy_22 : decode cX12_apartBy 22 = .ok (.iload_n 2, 1) := by decide +kernel
theorem dX12_apartBy_23 : decode cX12_apartBy 23 = .ok (.goto 4, 3) := by decide +kernel
theorem dX12_apartBy_26 : decode cX12_apartBy 26 = .ok (.iload_n 3, 1) := by decide +kernel
theorem dX12_apartBy_27 : decode cX12_apartBy 27 = .ok (.ireturn, 1) := by decide +kernel
theorem dX12_apart_0 : decode cX12_apart 0 = .ok (.iload_n 1, 1) := by decide +kernel
theorem dX12_apart_1 : decode cX12_apart 1 = .ok (.invokestatic 161, 3) := by decide +kernel
theorem dX12_apart_4 : decode cX12_apart 4 = .ok (.ifCond .eq 10, 3) := by decide +kernel
theorem dX12_apart_7 : decode cX12_apart 7 = .ok (.iload_n 2, 1) := by decide +kernel
theorem dX12_apart_8 : decode cX12_apart 8 = .ok (.invokestatic 161, 3) := by decide +kernel
theorem dX12_apart_11 : decode cX12_apart 11 = .ok (.ifCond .ne 5, 3) := by decide +kernel
theorem dX12_apart_14 : decode cX12_apart 14 = .ok (.iconst (-1), 1) := by decide +kernel
theorem dX12_apart_15 : decode cX12_apart 15 = .ok (.ireturn, 1) := by decide +kernel
theorem dX12_apart_16 : decode cX12_apart 16 = .ok (.aload_n 0, 1) := by decide +kernel
theorem dX12_apart_17 : decode cX12_apart 17 = .ok (.iload_n 1, 1) := by decide +kernel
theorem dX12_apart_18 : decode cX12_apart 18 = .ok (.invokevirtual 164, 3) := by decide +kernel
theorem dX12_apart_21 : decode cX12_apart 21 = .ok (.ifCond .eq 11, 3) := by decide +kernel
theorem dX12_apart_24 : decode cX12_apart 24 = .ok (.aload_n 0, 1) := by decide +kernel
theorem dX12_apart_25 : decode cX12_apart 25 = .ok (.iload_n 2, 1) := by decide +kernel
theorem dX12_apart_26 : decode cX12_apart 26 = .ok (.invokevirtual 164, 3) := by decide +kernel
theorem dX12_apart_29 : decode cX12_apart 29 = .ok (.ifCond .ne 11, 3) := by decide +kernel
theorem dX12_apart_32 : decode cX12_apart 32 = .ok (.aload_n 0, 1) := by decide +kernel
theorem dX12_apart_33 : decode cX12_apart 33 = .ok (.iconst 1, 1) := by decide +kernel
theorem dX12_apart_34 : decode cX12_apart 34 = .ok (.invokevirtual 138, 3) := by decide +kernel
theorem dX12_apart_37 : decode cX12_apart 37 = .ok (.goto 18, 3) := by decide +kernel
theorem dX12_apart_40 : decode cX12_apart 40 = .ok (.aload_n 0, 1) := by decide +kernel
theorem dX12_apart_41 : decode cX12_apart 41 = .ok (.getfield 38, 3) := by decide +kernel
theorem dX12_apart_44 : decode cX12_apart 44 = .ok (.iload_n 1, 1) := by decide +kernel
theorem dX12_apart_45 : decode cX12_apart 45 = .ok (.iaload, 1) := by decide +kernel
theorem dX12_apart_46 : decode cX12_apart 46 = .ok (.aload_n 0, 1) := by decide +kernel
theorem dX12_apart_47 : decode cX12_apart 47 = .ok (.getfield 38, 3) := by decide +kernel
theorem dX12_apart_50 : decode cX12_apart 50 = .ok (.iload_n 2, 1) := by decide +kernel
theorem dX12_apart_51 : decode cX12_apart 51 = .ok (.iaload, 1) := by decide +kernel
theorem dX12_apart_52 : decode cX12_apart 52 = .ok (.invokestatic 292, 3) := by decide +kernel
theorem dX12_apart_55 : decode cX12_apart 55 = .ok (.ireturn, 1) := by decide +kernel
theorem dX12_leastOf_0 : decode cX12_leastOf 0 = .ok (.bipush (-9), 2) := by decide +kernel
theorem dX12_leastOf_2 : decode cX12_leastOf 2 = .ok (.istore_n 1, 1) := by decide +kernel
theorem dX12_leastOf_3 : decode cX12_leastOf 3 = .ok (.iconst 0, 1) := by decide +kernel
theorem dX12_leastOf_4 : decode cX12_leastOf 4 = .ok (.istore_n 2, 1) := by decide +kernel
theorem dX12_leastOf_5 : decode cX12_leastOf 5 = .ok (.iload_n 2, 1) := by decide +kernel
theorem dX12_leastOf_6 : decode cX12_leastOf 6 = .ok (.bipush 8, 2) := by decide +kernel
theorem dX12_leastOf_8 : decode cX12_leastOf 8 = .ok (.if_icmp .ge 102, 3) := by decide +kernel
theorem dX12_leastOf_11 : decode cX12_leastOf 11 = .ok (.iload_n 2, 1) := by decide +kernel
theorem dX12_leastOf_12 : decode cX12_leastOf 12 = .ok (.iconst 1, 1) := by decide +kernel
theorem dX12_leastOf_13 : decode cX12_leastOf 13 = .ok (.iadd, 1) := by decide +kernel
theorem dX12_leastOf_14 : decode cX12_leastOf 14 = .ok (.istore_n 3, 1) := by decide +kernel
theorem dX12_leastOf_15 : decode cX12_leastOf 15 = .ok (.iload_n 3, 1) := by decide +kernel
theorem dX12_leastOf_16 : decode cX12_leastOf 16 = .ok (.bipush 8, 2) := by decide +kernel
theorem dX12_leastOf_18 : decode cX12_leastOf 18 = .ok (.if_icmp .ge 86, 3) := by decide +kernel
theorem dX12_leastOf_21 : decode cX12_leastOf 21 = .ok (.aload_n 0, 1) := by decide +kernel
theorem dX12_leastOf_22 : decode cX12_leastOf 22 = .ok (.iload_n 2, 1) := by decide +kernel
theorem dX12_leastOf_23 : decode cX12_leastOf 23 = .ok (.invokevirtual 164, 3) := by decide +kernel
theorem dX12_leastOf_26 : decode cX12_leastOf 26 = .ok (.ifCond .eq 72, 3) := by decide +kernel
theorem dX12_leastOf_29 : decode cX12_leastOf 29 = .ok (.aload_n 0, 1) := by decide +kernel
theorem dX12_leastOf_30 : decode cX12_leastOf 30 = .ok (.iload_n 3, 1) := by decide +kernel
theorem dX12_leastOf_31 : decode cX12_leastOf 31 = .ok (.invokevirtual 164, 3) := by decide +kernel
theorem dX12_leastOf_34 : decode cX12_leastOf 34 = .ok (.ifCond .eq 64, 3) := by decide +kernel
theorem dX12_leastOf_37 : decode cX12_leastOf 37 = .ok (.aload_n 0, 1) := by decide +kernel
theorem dX12_leastOf_38 : decode cX12_leastOf 38 = .ok (.getfield 38, 3) := by decide +kernel
theorem dX12_leastOf_41 : decode cX12_leastOf 41 = .ok (.iload_n 2, 1) := by decide +kernel
theorem dX12_leastOf_42 : decode cX12_leastOf 42 = .ok (.iaload, 1) := by decide +kernel
theorem dX12_leastOf_43 : decode cX12_leastOf 43 = .ok (.aload_n 0, 1) := by decide +kernel
theorem dX12_leastOf_44 : decode cX12_leastOf 44 = .ok (.getfield 38, 3) := by decide +kernel
theorem dX12_leastOf_47 : decode cX12_leastOf 47 = .ok (.iload_n 3, 1) := by decide +kernel
theorem dX12_leastOf_48 : decode cX12_leastOf 48 = .ok (.iaload, 1) := by decide +kernel
theorem dX12_leastOf_49 : decode cX12_leastOf 49 = .ok (.invokestatic 292, 3) := by decide +kernel
theorem dX12_leastOf_52 : decode cX12_leastOf 52 = .ok (.istore 4, 2) := by decide +kernel
theorem dX12_leastOf_54 : decode cX12_leastOf 54 = .ok (.aload_n 0, 1) := by decide +kernel
theorem dX12_leastOf_55 : decode cX12_leastOf 55 = .ok (.iload_n 1, 1) := by decide +kernel
theorem dX12_leastOf_56 : decode cX12_leastOf 56 = .ok (.ifCond .lt 9, 3) := by decide +kernel
theorem dX12_leastOf_59 : decode cX12_leastOf 59 = .ok (.iload 4, 2) := by decide +kernel
theorem dX12_leastOf_61 : decode cX12_leastOf 61 = .ok (.iload_n 1, 1) := by decide +kernel
theorem dX12_leastOf_62 : decode cX12_leastOf 62 = .ok (.if_icmp .ge 12, 3) := by decide +kernel
theorem dX12_leastOf_65 : decode cX12_leastOf 65 = .ok (.bipush 10, 2) := by decide +kernel
theorem dX12_leastOf_67 : decode cX12_leastOf 67 = .ok (.iload_n 2, 1) := by decide +kernel
theorem dX12_leastOf_68 : decode cX12_leastOf 68 = .ok (.imul, 1) := by decide +kernel
theorem dX12_leastOf_69 : decode cX12_leastOf 69 = .ok (.iload_n 3, 1) := by decide +kernel
theorem dX12_leastOf_70 : decode cX12_leastOf 70 = .ok (.iadd, 1) := by decide +kernel
theorem dX12_leastOf_71 : decode cX12_leastOf 71 = .ok (.goto 7, 3) := by decide +kernel
theorem dX12_leastOf_74 : decode cX12_leastOf 74 = .ok (.aload_n 0, 1) := by decide +kernel
theorem dX12_leastOf_75 : decode cX12_leastOf 75 = .ok (.getfield 295, 3) := by decide +kernel
theorem dX12_leastOf_78 : decode cX12_leastOf 78 = .ok (.putfield 295, 3) := by decide +kernel
theorem dX12_leastOf_81 : decode cX12_leastOf 81 = .ok (.iload_n 1, 1) := by decide +kernel
theorem dX12_leastOf_82 : decode cX12_leastOf 82 = .ok (.ifCond .lt 9, 3) := by decide +kernel
theorem dX12_leastOf_85 : decode cX12_leastOf 85 = .ok (.iload 4, 2) := by decide +kernel
theorem dX12_leastOf_87 : decode cX12_leastOf 87 = .ok (.iload_n 1, 1) := by decide +kernel
theorem dX12_leastOf_88 : decode cX12_leastOf 88 = .ok (.if_icmp .ge 8, 3) := by decide +kernel
theorem dX12_leastOf_91 : decode cX12_leastOf 91 = .ok (.iload 4, 2) := by decide +kernel
theorem dX12_leastOf_93 : decode cX12_leastOf 93 = .ok (.goto 4, 3) := by decide +kernel
theorem dX12_leastOf_96 : decode cX12_leastOf 96 = .ok (.iload_n 1, 1) := by decide +kernel
theorem dX12_leastOf_97 : decode cX12_leastOf 97 = .ok (.istore_n 1, 1) := by decide +kernel
theorem dX12_leastOf_98 : decode cX12_leastOf 98 = .ok (.iinc 3 1, 3) := by decide +kernel
theorem dX12_leastOf_101 : decode cX12_leastOf 101 = .ok (.goto (-86), 3) := by decide +kernel
theorem dX12_leastOf_104 : decode cX12_leastOf 104 = .ok (.iinc 2 1, 3) := by decide +kernel
theorem dX12_leastOf_107 : decode cX12_leastOf 107 = .ok (.goto (-102), 3) := by decide +kernel
theorem dX12_leastOf_110 : decode cX12_leastOf 110 = .ok (.iload_n 1, 1) := by decide +kernel
theorem dX12_leastOf_111 : decode cX12_leastOf 111 = .ok (.ireturn, 1) := by decide +kernel
theorem dX12_leastApart_0 : decode cX12_leastApart 0 = .ok (.aload_n 0, 1) := by decide +kernel
theorem dX12_leastApart_1 : decode cX12_leastApart 1 = .ok (.invokevirtual 298, 3) := by decide +kernel
theorem dX12_leastApart_4 : decode cX12_leastApart 4 = .ok (.istore_n 1, 1) := by decide +kernel
theorem dX12_leastApart_5 : decode cX12_leastApart 5 = .ok (.iload_n 1, 1) := by decide +kernel
theorem dX12_leastApart_6 : decode cX12_leastApart 6 = .ok (.ifCond .ge 8, 3) := by decide +kernel
theorem dX12_leastApart_9 : decode cX12_leastApart 9 = .ok (.bipush (-9), 2) := by decide +kernel
theorem dX12_leastApart_11 : decode cX12_leastApart 11 = .ok (.goto 12, 3) := by decide +kernel
theorem dX12_leastApart_14 : decode cX12_leastApart 14 = .ok (.aload_n 0, 1) := by decide +kernel
theorem dX12_leastApart_15 : decode cX12_leastApart 15 = .ok (.aload_n 0, 1) := by decide +kernel
theorem dX12_leastApart_16 : decode cX12_leastApart 16 = .ok (.getfield 295, 3) := by decide +kernel
theorem dX12_leastApart_19 : decode cX12_leastApart 19 = .ok (.iload_n 1, 1) := by decide +kernel
theorem dX12_leastApart_20 : decode cX12_leastApart 20 = .ok (.invokevirtual 152, 3) := by decide +kernel
theorem dX12_leastApart_23 : decode cX12_leastApart 23 = .ok (.ireturn, 1) := by decide +kernel
theorem dX12_matters_0 : decode cX12_matters 0 = .ok (.aload_n 0, 1) := by decide +kernel
theorem dX12_matters_1 : decode cX12_matters 1 = .ok (.iload_n 1, 1) := by decide +kernel
theorem dX12_matters_2 : decode cX12_matters 2 = .ok (.invokevirtual 171, 3) := by decide +kernel
theorem dX12_matters_5 : decode cX12_matters 5 = .ok (.istore_n 2, 1) := by decide +kernel
theorem dX12_matters_6 : decode cX12_matters 6 = .ok (.iload_n 2, 1) := by decide +kernel
theorem dX12_matters_7 : decode cX12_matters 7 = .ok (.ifCond .ge 5, 3) := by decide +kernel
theorem dX12_matters_10 : decode cX12_matters 10 = .ok (.iload_n 2, 1) := by decide +kernel
theorem dX12_matters_11 : decode cX12_matters 11 = .ok (.ireturn, 1) := by decide +kernel
theorem dX12_matters_12 : decode cX12_matters 12 = .ok (.aload_n 0, 1) := by decide +kernel
theorem dX12_matters_13 : decode cX12_matters 13 = .ok (.invokevirtual 298, 3) := by decide +kernel
theorem dX12_matters_16 : decode cX12_matters 16 = .ok (.istore_n 3, 1) := by decide +kernel
theorem dX12_matters_17 : decode cX12_matters 17 = .ok (.aload_n 0, 1) := by decide +kernel
theorem dX12_matters_18 : decode cX12_matters 18 = .ok (.getfield 38, 3) := by decide +kernel
theorem dX12_matters_21 : decode cX12_matters 21 = .ok (.iload_n 1, 1) := by decide +kernel
theorem dX12_matters_22 : decode cX12_matters 22 = .ok (.iaload, 1) := by decide +kernel
theorem dX12_matters_23 : decode cX12_matters 23 = .ok (.istore 4, 2) := by decide +kernel
theorem dX12_matters_25 : decode cX12_matters 25 = .ok (.iconst 0, 1) := by decide +kernel
theorem dX12_matters_26 : decode cX12_matters 26 = .ok (.istore 5, 2) := by decide +kernel
theorem dX12_matters_28 : decode cX12_matters 28 = .ok (.iconst 0, 1) := by decide +kernel
theorem dX12_matters_29 : decode cX12_matters 29 = .ok (.istore 6, 2) := by decide +kernel
theorem dX12_matters_31 : decode cX12_matters 31 = .ok (.iload 6, 2) := by decide +kernel
theorem dX12_matters_33 : decode cX12_matters 33 = .ok (.bipush 16, 2) := by decide +kernel
theorem dX12_matters_35 : decode cX12_matters 35 = .ok (.if_icmp .ge 64, 3) := by decide +kernel
theorem dX12_matters_38 : decode cX12_matters 38 = .ok (.iload 4, 2) := by decide +kernel
theorem dX12_matters_40 : decode cX12_matters 40 = .ok (.iload 6, 2) := by decide +kernel
theorem dX12_matters_42 : decode cX12_matters 42 = .ok (.invokestatic 174, 3) := by decide +kernel
theorem dX12_matters_45 : decode cX12_matters 45 = .ok (.ifCond .eq 48, 3) := by decide +kernel
theorem dX12_matters_48 : decode cX12_matters 48 = .ok (.iload 4, 2) := by decide +kernel
theorem dX12_matters_50 : decode cX12_matters 50 = .ok (.iconst 1, 1) := by decide +kernel
theorem dX12_matters_51 : decode cX12_matters 51 = .ok (.iload 6, 2) := by decide +kernel
theorem dX12_matters_53 : decode cX12_matters 53 = .ok (.ishl, 1) := by decide +kernel
theorem dX12_matters_54 : decode cX12_matters 54 = .ok (.if_icmp .eq 39, 3) := by decide +kernel
theorem dX12_matters_57 : decode cX12_matters 57 = .ok (.aload_n 0, 1) := by decide +kernel
theorem dX12_matters_58 : decode cX12_matters 58 = .ok (.getfield 38, 3) := by decide +kernel
theorem dX12_matters_61 : decode cX12_matters 61 = .ok (.iload_n 1, 1) := by decide +kernel
theorem dX12_matters_62 : decode cX12_matters 62 = .ok (.iload 4, 2) := by decide +kernel
theorem dX12_matters_64 : decode cX12_matters 64 = .ok (.iconst 1, 1) := by decide +kernel
theorem dX12_matters_65 : decode cX12_matters 65 = .ok (.iload 6, 2) := by decide +kernel
theorem dX12_matters_67 : decode cX12_matters 67 = .ok (.ishl, 1) := by decide +kernel
theorem dX12_matters_68 : decode cX12_matters 68 = .ok (.iconst (-1), 1) := by decide +kernel
theorem dX12_matters_69 : decode cX12_matters 69 = .ok (.ixor, 1) := by decide +kernel
theorem dX12_matters_70 : decode cX12_matters 70 = .ok (.iand, 1) := by decide +kernel
theorem dX12_matters_71 : decode cX12_matters 71 = .ok (.iastore, 1) := by decide +kernel
theorem dX12_matters_72 : decode cX12_matters 72 = .ok (.iload 5, 2) := by decide +kernel
theorem dX12_matters_74 : decode cX12_matters 74 = .ok (.aload_n 0, 1) := by decide +kernel
theorem dX12_matters_75 : decode cX12_matters 75 = .ok (.invokevirtual 298, 3) := by decide +kernel
theorem dX12_matters_78 : decode cX12_matters 78 = .ok (.iload_n 3, 1) := by decide +kernel
theorem dX12_matters_79 : decode cX12_matters 79 = .ok (.if_icmp .lt 10, 3) := by decide +kernel
theorem dX12_matters_82 : decode cX12_matters 82 = .ok (.iconst 1, 1) := by decide +kernel
theorem dX12_matters_83 : decode cX12_matters 83 = .ok (.iload 6, 2) := by decide +kernel
theorem dX12_matters_85 : decode cX12_matters 85 = .ok (.ishl, 1) := by decide +kernel
theorem dX12_matters_86 : decode cX12_matters 86 = .ok (.goto 4, 3) := by decide +kernel
theorem dX12_matters_89 : decode cX12_matters 89 = .ok (.iconst 0, 1) := by decide +kernel
theorem dX12_matters_90 : decode cX12_matters 90 = .ok (.ior, 1) := by decide +kernel
theorem dX12_matters_91 : decode cX12_matters 91 = .ok (.istore 5, 2) := by decide +kernel
theorem dX12_matters_93 : decode cX12_matters 93 = .ok (.iinc 6 1, 3) := by decide +kernel
theorem dX12_matters_96 : decode cX12_matters 96 = .ok (.goto (-65), 3) := by decide +kernel
theorem dX12_matters_99 : decode cX12_matters 99 = .ok (.aload_n 0, 1) := by decide +kernel
theorem dX12_matters_100 : decode cX12_matters 100 = .ok (.getfield 38, 3) := by decide +kernel
theorem dX12_matters_103 : decode cX12_matters 103 = .ok (.iload_n 1, 1) := by decide +kernel
theorem dX12_matters_104 : decode cX12_matters 104 = .ok (.iload 4, 2) := by decide +kernel
theorem dX12_matters_106 : decode cX12_matters 106 = .ok (.iastore, 1) := by decide +kernel
theorem dX12_matters_107 : decode cX12_matters 107 = .ok (.iload 5, 2) := by decide +kernel
theorem dX12_matters_109 : decode cX12_matters 109 = .ok (.ireturn, 1) := by decide +kernel
theorem dX12_part_0 : decode cX12_part 0 = .ok (.aload_n 0, 1) := by decide +kernel
theorem dX12_part_1 : decode cX12_part 1 = .ok (.getfield 118, 3) := by decide +kernel
theorem dX12_part_4 : decode cX12_part 4 = .ok (.iconst 5, 1) := by decide +kernel
theorem dX12_part_5 : decode cX12_part 5 = .ok (.iload_n 1, 1) := by decide +kernel
theorem dX12_part_6 : decode cX12_part 6 = .ok (.imul, 1) := by decide +kernel
theorem dX12_part_7 : decode cX12_part 7 = .ok (.iload_n 2, 1) := by decide +kernel
theorem dX12_part_8 : decode cX12_part 8 = .ok (.iadd, 1) := by decide +kernel
theorem dX12_part_9 : decode cX12_part 9 = .ok (.iaload, 1) := by decide +kernel
theorem dX12_part_10 : decode cX12_part 10 = .ok (.ireturn, 1) := by decide +kernel
theorem dX12_isMoment_0 : decode cX12_isMoment 0 = .ok (.iload_n 0, 1) := by decide +kernel
theorem dX12_isMoment_1 : decode cX12_isMoment 1 = .ok (.tableswitch 188 0 6 #[43, 45, 67, 90, 123, 157, 165], 43) := by decide +kernel
theorem dX12_isMoment_44 : decode cX12_isMoment 44 = .ok (.iconst 1, 1) := by decide +kernel
theorem dX12_isMoment_45 : decode cX12_isMoment 45 = .ok (.ireturn, 1) := by decide +kernel
theorem dX12_isMoment_46 : decode cX12_isMoment 46 = .ok (.iload_n 1, 1) := by decide +kernel
theorem dX12_isMoment_47 : decode cX12_isMoment 47 = .ok (.invokestatic 161, 3) := by decide +kernel
theorem dX12_isMoment_50 : decode cX12_isMoment 50 = .ok (.ifCond .eq 16, 3) := by decide +kernel
theorem dX12_isMoment_53 : decode cX12_isMoment 53 = .ok (.iload_n 2, 1) := by decide +kernel
theorem dX12_isMoment_54 : decode cX12_isMoment 54 = .ok (.iconst 0, 1) := by decide +kernel
theorem dX12_isMoment_55 : decode cX12_isMoment 55 = .ok (.iconst 1, 1) := by decide +kernel
theorem dX12_isMoment_56 : decode cX12_isMoment 56 = .ok (.invokestatic 130, 3) := by decide +kernel
theorem dX12_isMoment_59 : decode cX12_isMoment 59 = .ok (.ifCond .eq 7, 3) := by decide +kernel
theorem dX12_isMoment_62 : decode cX12_isMoment 62 = .ok (.iconst 1, 1) := by decide +kernel
theorem dX12_isMoment_63 : decode cX12_isMoment 63 = .ok (.goto 4, 3) := by decide +kernel
theorem dX12_isMoment_66 : decode cX12_isMoment 66 = .ok (.iconst 0, 1) := by decide +kernel
theorem dX12_isMoment_67 : decode cX12_isMoment 67 = .ok (.ireturn, 1) := by decide +kernel
theorem dX12_isMoment_68 : decode cX12_isMoment 68 = .ok (.iload_n 1, 1) := by decide +kernel
theorem dX12_isMoment_69 : decode cX12_isMoment 69 = .ok (.invokestatic 161, 3) := by decide +kernel
theorem dX12_isMoment_72 : decode cX12_isMoment 72 = .ok (.ifCond .eq 17, 3) := by decide +kernel
theorem dX12_isMoment_75 : decode cX12_isMoment 75 = .ok (.iload_n 2, 1) := by decide +kernel
theorem dX12_isMoment_76 : decode cX12_isMoment 76 = .ok (.iconst 0, 1) := by decide +kernel
theorem dX12_isMoment_77 : decode cX12_isMoment 77 = .ok (.bipush 9, 2) := by decide +kernel
theorem dX12_isMoment_79 : decode cX12_isMoment 79 = .ok (.invokestatic 130, 3) := by decide +kernel
theorem dX12_isMoment_82 : decode cX12_isMoment 82 = .ok (.ifCond .eq 7, 3) := by decide +kernel
theorem dX12_isMoment_85 : decode cX12_isMoment 85 = .ok (.iconst 1, 1) := by decide +kernel
theorem dX12_isMoment_86 : decode cX12_isMoment 86 = .ok (.goto 4, 3) := by decide +kernel
theorem dX12_isMoment_89 : decode cX12_isMoment 89 = .ok (.iconst 0, 1) := by decide +kernel
theorem dX12_isMoment_90 : decode cX12_isMoment 90 = .ok (.ireturn, 1) := by decide +kernel
theorem dX12_isMoment_91 : decode cX12_isMoment 91 = .ok (.iload_n 1, 1) := by decide +kernel
theorem dX12_isMoment_92 : decode cX12_isMoment 92 = .ok (.invokestatic 161, 3) := by decide +kernel
theorem dX12_isMoment_95 : decode cX12_isMoment 95 = .ok (.ifCond .eq 27, 3) := by decide +kernel
theorem dX12_isMoment_98 : decode cX12_isMoment 98 = .ok (.iload_n 2, 1) := by decide +kernel
theorem dX12_isMoment_99 : decode cX12_isMoment 99 = .ok (.iconst 0, 1) := by decide +kernel
theorem dX12_isMoment_100 : decode cX12_isMoment 100 = .ok (.iconst 1, 1) := by decide +kernel
theorem dX12_isMoment_101 : decode cX12_isMoment 101 = .ok (.invokestatic 130, 3) := by decide +kernel
theorem dX12_isMoment_104 : decode cX12_isMoment 104 = .ok (.ifCond .eq 18, 3) := by decide +kernel
theorem dX12_isMoment_107 : decode cX12_isMoment 107 = .ok (.iload_n 3, 1) := by decide +kernel
theorem dX12_isMoment_108 : decode cX12_isMoment 108 = .ok (.bipush (-99), 2) := by decide +kernel
theorem dX12_isMoment_110 : decode cX12_isMoment 110 = .ok (.bipush 99, 2) := by decide +kernel
theorem dX12_isMoment_112 : decode cX12_isMoment 112 = .ok (.invokestatic 130, 3) := by decide +kernel
theorem dX12_isMoment_115 : decode cX12_isMoment 115 = .ok (.ifCond .eq 7, 3) := by decide +kernel
theorem dX12_isMoment_118 : decode cX12_isMoment 118 = .ok (.iconst 1, 1) := by decide +kernel
theorem dX12_isMoment_119 : decode cX12_isMoment 119 = .ok (.goto 4, 3) := by decide +kernel
theorem dX12_isMoment_122 : decode cX12_isMoment 122 = .ok (.iconst 0, 1) := by decide +kernel
theorem dX12_isMoment_123 : decode cX12_isMoment 123 = .ok (.ireturn, 1) := by decide +kernel
theorem dX12_isMoment_124 : decode cX12_isMoment 124 = .ok (.iload_n 1, 1) := by decide +kernel
theorem dX12_isMoment_125 : decode cX12_isMoment 125 = .ok (.invokestatic 161, 3) := by decide +kernel
theorem dX12_isMoment_128 : decode cX12_isMoment 128 = .ok (.ifCond .eq 28, 3) := by decide +kernel
theorem dX12_isMoment_131 : decode cX12_isMoment 131 = .ok (.iload_n 2, 1) := by decide +kernel
theorem dX12_isMoment_132 : decode cX12_isMoment 132 = .ok (.iconst 0, 1) := by decide +kernel
theorem dX12_isMoment_133 : decode cX12_isMoment 133 = .ok (.iconst 1, 1) := by decide +kernel
theorem dX12_isMoment_134 : decode cX12_isMoment 134 = .ok (.invokestatic 130, 3) := by decide +kernel
theorem dX12_isMoment_137 : decode cX12_isMoment 137 = .ok (.ifCond .eq 19, 3) := by decide +kernel
theorem dX12_isMoment_140 : decode cX12_isMoment 140 = .ok (.iload_n 3, 1) := by decide +kernel
theorem dX12_isMoment_141 : decode cX12_isMoment 141 = .ok (.invokestatic 161, 3) := by decide +kernel
theorem dX12_isMoment_144 : decode cX12_isMoment 144 = .ok (.ifCond .eq 12, 3) := by decide +kernel
theorem dX12_isMoment_147 : decode cX12_isMoment 147 = .ok (.iload_n 3, 1) := by decide +kernel
theorem dX12_isMoment_148 : decode cX12_isMoment 148 = .ok (.iload_n 1, 1) := by decide +kernel
theorem dX12_isMoment_149 : decode cX12_isMoment 149 = .ok (.if_icmp .eq 7, 3) := by decide +kernel
theorem dX12_isMoment_152 : decode cX12_isMoment 152 = .ok (.iconst 1, 1) := by decide +kernel
theorem dX12_isMoment_153 : decode cX12_isMoment 153 = .ok (.goto 4, 3) := by decide +kernel
theorem dX12_isMoment_156 : decode cX12_isMoment 156 = .ok (.iconst 0, 1) := by decide +kernel
theorem dX12_isMoment_157 : decode cX12_isMoment 157 = .ok (.ireturn, 1) := by decide +kernel
theorem dX12_isMoment_158 : decode cX12_isMoment 158 = .ok (.iload_n 2, 1) := by decide +kernel
theorem dX12_isMoment_159 : decode cX12_isMoment 159 = .ok (.iconst 0, 1) := by decide +kernel
theorem dX12_isMoment_160 : decode cX12_isMoment 160 = .ok (.bipush 7, 2) := by decide +kernel
theorem dX12_isMoment_162 : decode cX12_isMoment 162 = .ok (.invokestatic 130, 3) := by decide +kernel
theorem dX12_isMoment_165 : decode cX12_isMoment 165 = .ok (.ireturn, 1) := by decide +kernel
theorem dX12_isMoment_166 : decode cX12_isMoment 166 = .ok (.iload_n 1, 1) := by decide +kernel
theorem dX12_isMoment_167 : decode cX12_isMoment 167 = .ok (.invokestatic 161, 3) := by decide +kernel
theorem dX12_isMoment_170 : decode cX12_isMoment 170 = .ok (.ifCond .eq 17, 3) := by decide +kernel
theorem dX12_isMoment_173 : decode cX12_isMoment 173 = .ok (.iload_n 2, 1) := by decide +kernel
theorem dX12_isMoment_174 : decode cX12_isMoment 174 = .ok (.iconst 0, 1) := by decide +kernel
theorem dX12_isMoment_175 : decode cX12_isMoment 175 = .ok (.bipush 9, 2) := by decide +kernel
theorem dX12_isMoment_177 : decode cX12_isMoment 177 = .ok (.invokestatic 130, 3) := by decide +kernel
theorem dX12_isMoment_180 : decode cX12_isMoment 180 = .ok (.ifCond .eq 7, 3) := by decide +kernel
theorem dX12_isMoment_183 : decode cX12_isMoment 183 = .ok (.iconst 1, 1) := by decide +kernel
theorem dX12_isMoment_184 : decode cX12_isMoment 184 = .ok (.goto 4, 3) := by decide +kernel
theorem dX12_isMoment_187 : decode cX12_isMoment 187 = .ok (.iconst 0, 1) := by decide +kernel
theorem dX12_isMoment_188 : decode cX12_isMoment 188 = .ok (.ireturn, 1) := by decide +kernel
theorem dX12_isMoment_189 : decode cX12_isMoment 189 = .ok (.iconst 0, 1) := by decide +kernel
theorem dX12_isMoment_190 : decode cX12_isMoment 190 = .ok (.ireturn, 1) := by decide +kernel
theorem dX12_moment_0 : decode cX12_moment 0 = .ok (.iload_n 1, 1) := by decide +kernel
theorem dX12_moment_1 : decode cX12_moment 1 = .ok (.iconst 0, 1) := by decide +kernel
theorem dX12_moment_2 : decode cX12_moment 2 = .ok (.sipush 32000, 3) := by decide +kernel
theorem dX12_moment_5 : decode cX12_moment 5 = .ok (.invokestatic 130, 3) := by decide +kernel
theorem dX12_moment_8 : decode cX12_moment 8 = .ok (.ifCond .eq 15, 3) := by decide +kernel
theorem dX12_moment_11 : decode cX12_moment 11 = .ok (.iload_n 2, 1) := by decide +kernel
theorem dX12_moment_12 : decode cX12_moment 12 = .ok (.iload_n 3, 1) := by decide +kernel
theorem dX12_moment_13 : decode cX12_moment 13 = .ok (.iload 4, 2) := by decide +kernel
theorem dX12_moment_15 : decode cX12_moment 15 = .ok (.iload 5, 2) := by decide +kernel
theorem dX12_moment_17 : decode cX12_moment 17 = .ok (.invokestatic 301, 3) := by decide +kernel
theorem dX12_moment_20 : decode cX12_moment 20 = .ok (.ifCond .ne 5, 3) := by decide +kernel
theorem dX12_moment_23 : decode cX12_moment 23 = .ok (.iconst (-1), 1) := by decide +kernel
theorem dX12_moment_24 : decode cX12_moment 24 = .ok (.ireturn, 1) := by decide +kernel
theorem dX12_moment_25 : decode cX12_moment 25 = .ok (.aload_n 0, 1) := by decide +kernel
theorem dX12_moment_26 : decode cX12_moment 26 = .ok (.getfield 304, 3) := by decide +kernel
theorem dX12_moment_29 : decode cX12_moment 29 = .ok (.bipush 40, 2) := by decide +kernel
theorem dX12_moment_31 : decode cX12_moment 31 = .ok (.if_icmp .ne 6, 3) := by decide +kernel
theorem dX12_moment_34 : decode cX12_moment 34 = .ok (.bipush (-2), 2) := by decide +kernel
theorem dX12_moment_36 : decode cX12_moment 36 = .ok (.ireturn, 1) := by decide +kernel
theorem dX12_moment_37 : decode cX12_moment 37 = .ok (.iload_n 2, 1) := by decide +kernel
theorem dX12_moment_38 : decode cX12_moment 38 = .ok (.ifCond .eq 8, 3) := by decide +kernel
theorem dX12_moment_41 : decode cX12_moment 41 = .ok (.iload_n 2, 1) := by decide +kernel
theorem dX12_moment_42 : decode cX12_moment 42 = .ok (.iconst 5, 1) := by decide +kernel
theorem dX12_moment_43 : decode cX12_moment 43 = .ok (.if_icmp .ne 7, 3) := by decide +kernel
theorem dX12_moment_46 : decode cX12_moment 46 = .ok (.iconst 1, 1) := by decide +kernel
theorem dX12_moment_47 : decode cX12_moment 47 = .ok (.goto 4, 3) := by decide +kernel
theorem dX12_moment_50 : decode cX12_moment 50 = .ok (.iconst 0, 1) := by decide +kernel
theorem dX12_moment_51 : decode cX12_moment 51 = .ok (.istore 6, 2) := by decide +kernel
theorem dX12_moment_53 : decode cX12_moment 53 = .ok (.iload 6, 2) := by decide +kernel
theorem dX12_moment_55 : decode cX12_moment 55 = .ok (.ifCond .ne 11, 3) := by decide +kernel
theorem dX12_moment_58 : decode cX12_moment 58 = .ok (.aload_n 0, 1) := by decide +kernel
theorem dX12_moment_59 : decode cX12_moment 59 = .ok (.iload_n 3, 1) := by decide +kernel
theorem dX12_moment_60 : decode cX12_moment 60 = .ok (.invokevirtual 164, 3) := by decide +kernel
theorem dX12_moment_63 : decode cX12_moment 63 = .ok (.ifCond .eq 17, 3) := by decide +kernel
theorem dX12_moment_66 : decode cX12_moment 66 = .ok (.iload_n 2, 1) := by decide +kernel
theorem dX12_moment_67 : decode cX12_moment 67 = .ok (.iconst 4, 1) := by decide +kernel
theorem dX12_moment_68 : decode cX12_moment 68 = .ok (.if_icmp .ne 18, 3) := by decide +kernel
theorem dX12_moment_71 : decode cX12_moment 71 = .ok (.aload_n 0, 1) := by decide +kernel
theorem dX12_moment_72 : decode cX12_moment 72 = .ok (.iload 5, 2) := by decide +kernel
theorem dX12_moment_74 : decode cX12_moment 74 = .ok (.invokevirtual 164, 3) := by decide +kernel
theorem dX12_moment_77 : decode cX12_moment 77 = .ok (.ifCond .ne 9, 3) := by decide +kernel
theorem dX12_moment_80 : decode cX12_moment 80 = .ok (.aload_n 0, 1) := by decide +kernel
theorem dX12_moment_81 : decode cX12_moment 81 = .ok (.iconst 1, 1) := by decide +kernel
theorem dX12_moment_82 : decode cX12_moment 82 = .ok (.invokevirtual 138, 3) := by decide +kernel
theorem dX12_moment_85 : decode cX12_moment 85 = .ok (.ireturn, 1) := by decide +kernel
theorem dX12_moment_86 : decode cX12_moment 86 = .ok (.iconst 5, 1) := by decide +kernel
theorem dX12_moment_87 : decode cX12_moment 87 = .ok (.aload_n 0, 1) := by decide +kernel
theorem dX12_moment_88 : decode cX12_moment 88 = .ok (.getfield 304, 3) := by decide +kernel
theorem dX12_moment_91 : decode cX12_moment 91 = .ok (.imul, 1) := by decide +kernel
theorem dX12_moment_92 : decode cX12_moment 92 = .ok (.istore 7, 2) := by decide +kernel
theorem dX12_moment_94 : decode cX12_moment 94 = .ok (.aload_n 0, 1) := by decide +kernel
theorem dX12_moment_95 : decode cX12_moment 95 = .ok (.getfield 118, 3) := by decide +kernel
theorem dX12_moment_98 : decode cX12_moment 98 = .ok (.iload 7, 2) := by decide +kernel
theorem dX12_moment_100 : decode cX12_moment 100 = .ok (.iload_n 2, 1) := by decide +kernel
theorem dX12_moment_101 : decode cX12_moment 101 = .ok (.iastore, 1) := by decide +kernel
theorem dX12_moment_102 : decode cX12_moment 102 = .ok (.aload_n 0, 1) := by decide +kernel
theorem dX12_moment_103 : decode cX12_moment 103 = .ok (.getfield 118, 3) := by decide +kernel
theorem dX12_moment_106 : decode cX12_moment 106 = .ok (.iload 7, 2) := by decide +kernel
theorem dX12_moment_108 : decode cX12_moment 108 = .ok (.iconst 1, 1) := by decide +kernel
theorem dX12_moment_109 : decode cX12_moment 109 = .ok (.iadd, 1) := by decide +kernel
theorem dX12_moment_110 : decode cX12_moment 110 = .ok (.iload_n 1, 1) := by decide +kernel
theorem dX12_moment_111 : decode cX12_moment 111 = .ok (.iastore, 1) := by decide +kernel
theorem dX12_moment_112 : decode cX12_moment 112 = .ok (.aload_n 0, 1) := by decide +kernel
theorem dX12_moment_113 : decode cX12_moment 113 = .ok (.getfield 118, 3) := by decide +kernel
theorem dX12_moment_116 : decode cX12_moment 116 = .ok (.iload 7, 2) := by decide +kernel
theorem dX12_moment_118 : decode cX12_moment 118 = .ok (.iconst 2, 1) := by decide +kernel
theorem dX12_moment_119 : decode cX12_moment 119 = .ok (.iadd, 1) := by decide +kernel
theorem dX12_moment_120 : decode cX12_moment 120 = .ok (.iload 6, 2) := by decide +kernel
theorem dX12_moment_122 : decode cX12_moment 122 = .ok (.ifCond .eq 8, 3) := by decide +kernel
theorem dX12_moment_125 : decode cX12_moment 125 = .ok (.bipush (-9), 2) := by decide +kernel
theorem dX12_moment_127 : decode cX12_moment 127 = .ok (.goto 4, 3) := by decide +kernel
theorem dX12_moment_130 : decode cX12_moment 130 = .ok (.iload_n 3, 1) := by decide +kernel
theorem dX12_moment_131 : decode cX12_moment 131 = .ok (.iastore, 1) := by decide +kernel
theorem dX12_moment_132 : decode cX12_moment 132 = .ok (.aload_n 0, 1) := by decide +kernel
theorem dX12_moment_133 : decode cX12_moment 133 = .ok (.getfield 118, 3) := by decide +kernel
theorem dX12_moment_136 : decode cX12_moment 136 = .ok (.iload 7, 2) := by decide +kernel
theorem dX12_moment_138 : decode cX12_moment 138 = .ok (.iconst 3, 1) := by decide +kernel
theorem dX12_moment_139 : decode cX12_moment 139 = .ok (.iadd, 1) := by decide +kernel
theorem dX12_moment_140 : decode cX12_moment 140 = .ok (.iload_n 2, 1) := by decide +kernel
theorem dX12_moment_141 : decode cX12_moment 141 = .ok (.ifCond .ne 7, 3) := by decide +kernel
theorem dX12_moment_144 : decode cX12_moment 144 = .ok (.iconst 0, 1) := by decide +kernel
theorem dX12_moment_145 : decode cX12_moment 145 = .ok (.goto 5, 3) := by decide +kernel
theorem dX12_moment_148 : decode cX12_moment 148 = .ok (.iload 4, 2) := by decide +kernel
theorem dX12_moment_150 : decode cX12_moment 150 = .ok (.iastore, 1) := by decide +kernel
theorem dX12_moment_151 : decode cX12_moment 151 = .ok (.aload_n 0, 1) := by decide +kernel
theorem dX12_moment_152 : decode cX12_moment 152 = .ok (.getfield 118, 3) := by decide +kernel
theorem dX12_moment_155 : decode cX12_moment 155 = .ok (.iload 7, 2) := by decide +kernel
theorem dX12_moment_157 : decode cX12_moment 157 = .ok (.iconst 4, 1) := by decide +kernel
theorem dX12_moment_158 : decode cX12_moment 158 = .ok (.iadd, 1) := by decide +kernel
theorem dX12_moment_159 : decode cX12_moment 159 = .ok (.iload_n 2, 1) := by decide +kernel
theorem dX12_moment_160 : decode cX12_moment 160 = .ok (.iconst 3, 1) := by decide +kernel
theorem dX12_moment_161 : decode cX12_moment 161 = .ok (.if_icmp .eq 8, 3) := by decide +kernel
theorem dX12_moment_164 : decode cX12_moment 164 = .ok (.iload_n 2, 1) := by decide +kernel
theorem dX12_moment_165 : decode cX12_moment 165 = .ok (.iconst 4, 1) := by decide +kernel
theorem dX12_moment_166 : decode cX12_moment 166 = .ok (.if_icmp .ne 8, 3) := by decide +kernel
theorem dX12_moment_169 : decode cX12_moment 169 = .ok (.iload 5, 2) := by decide +kernel
theorem dX12_moment_171 : decode cX12_moment 171 = .ok (.goto 4, 3) := by decide +kernel
theorem dX12_moment_174 : decode cX12_moment 174 = .ok (.iconst 0, 1) := by decide +kernel
theorem dX12_moment_175 : decode cX12_moment 175 = .ok (.iastore, 1) := by decide +kernel
theorem dX12_moment_176 : decode cX12_moment 176 = .ok (.aload_n 0, 1) := by decide +kernel
theorem dX12_moment_177 : decode cX12_moment 177 = .ok (.dup, 1) := by decide +kernel
theorem dX12_moment_178 : decode cX12_moment 178 = .ok (.getfield 304, 3) := by decide +kernel
theorem dX12_moment_181 : decode cX12_moment 181 = .ok (.iconst 1, 1) := by decide +kernel
theorem dX12_moment_182 : decode cX12_moment 182 = .ok (.iadd, 1) := by decide +kernel
theorem dX12_moment_183 : decode cX12_moment 183 = .ok (.putfield 304, 3) := by decide +kernel
theorem dX12_moment_186 : decode cX12_moment 186 = .ok (.aload_n 0, 1) := by decide +kernel
theorem dX12_moment_187 : decode cX12_moment 187 = .ok (.getfield 304, 3) := by decide +kernel
theorem dX12_moment_190 : decode cX12_moment 190 = .ok (.iconst 1, 1) := by decide +kernel
theorem dX12_moment_191 : decode cX12_moment 191 = .ok (.isub, 1) := by decide +kernel
theorem dX12_moment_192 : decode cX12_moment 192 = .ok (.ireturn, 1) := by decide +kernel
theorem dX12_isTold_0 : decode cX12_isTold 0 = .ok (.iload_n 1, 1) := by decide +kernel
theorem dX12_isTold_1 : decode cX12_isTold 1 = .ok (.iconst 0, 1) := by decide +kernel
theorem dX12_isTold_2 : decode cX12_isTold 2 = .ok (.aload_n 0, 1) := by decide +kernel
theorem dX12_isTold_3 : decode cX12_isTold 3 = .ok (.getfield 304, 3) := by decide +kernel
theorem dX12_isTold_6 : decode cX12_isTold 6 = .ok (.iconst 1, 1) := by decide +kernel
theorem dX12_isTold_7 : decode cX12_isTold 7 = .ok (.isub, 1) := by decide +kernel
theorem dX12_isTold_8 : decode cX12_isTold 8 = .ok (.invokestatic 130, 3) := by decide +kernel
theorem dX12_isTold_11 : decode cX12_isTold 11 = .ok (.ireturn, 1) := by decide +kernel
theorem dX12_told_0 : decode cX12_told 0 = .ok (.aload_n 0, 1) := by decide +kernel
theorem dX12_told_1 : decode cX12_told 1 = .ok (.iload_n 1, 1) := by decide +kernel
theorem dX12_told_2 : decode cX12_told 2 = .ok (.invokevirtual 307, 3) := by decide +kernel
theorem dX12_told_5 : decode cX12_told 5 = .ok (.ifCond .eq 26, 3) := by decide +kernel
theorem dX12_told_8 : decode cX12_told 8 = .ok (.iload_n 2, 1) := by decide +kernel
theorem dX12_told_9 : decode cX12_told 9 = .ok (.iconst 0, 1) := by decide +kernel
theorem dX12_told_10 : decode cX12_told 10 = .ok (.iconst 4, 1) := by decide +kernel
theorem dX12_told_11 : decode cX12_told 11 = .ok (.invokestatic 130, 3) := by decide +kernel
theorem dX12_told_14 : decode cX12_told 14 = .ok (.ifCond .eq 17, 3) := by decide +kernel
theorem dX12_told_17 : decode cX12_told 17 = .ok (.aload_n 0, 1) := by decide +kernel
theorem dX12_told_18 : decode cX12_told 18 = .ok (.aload_n 0, 1) := by decide +kernel
theorem dX12_told_19 : decode cX12_told 19 = .ok (.iload_n 1, 1) := by decide +kernel
theorem dX12_told_20 : decode cX12_told 20 = .ok (.iload_n 2, 1) := by decide +kernel
theorem dX12_told_21 : decode cX12_told 21 = .ok (.invokevirtual 310, 3) := by decide +kernel
theorem dX12_told_24 : decode cX12_told 24 = .ok (.iconst 1, 1) := by decide +kernel
theorem dX12_told_25 : decode cX12_told 25 = .ok (.invokevirtual 152, 3) := by decide +kernel
theorem dX12_told_28 : decode cX12_told 28 = .ok (.goto 4, 3) := by decide +kernel
theorem dX12_told_31 : decode cX12_told 31 = .ok (.iconst (-1), 1) := by decide +kernel
theorem dX12_told_32 : decode cX12_told 32 = .ok (.ireturn, 1) := by decide +kernel
theorem dX12_isOf_0 : decode cX12_isOf 0 = .ok (.iload_n 0, 1) := by decide +kernel
theorem dX12_isOf_1 : decode cX12_isOf 1 = .ok (.iload_n 1, 1) := by decide +kernel
theorem dX12_isOf_2 : decode cX12_isOf 2 = .ok (.if_icmp .eq 18, 3) := by decide +kernel
theorem dX12_isOf_5 : decode cX12_isOf 5 = .ok (.iload_n 1, 1) := by decide +kernel
theorem dX12_isOf_6 : decode cX12_isOf 6 = .ok (.iconst 1, 1) := by decide +kernel
theorem dX12_isOf_7 : decode cX12_isOf 7 = .ok (.if_icmp .ne 17, 3) := by decide +kernel
theorem dX12_isOf_10 : decode cX12_isOf 10 = .ok (.iload_n 0, 1) := by decide +kernel
theorem dX12_isOf_11 : decode cX12_isOf 11 = .ok (.iconst 3, 1) := by decide +kernel
theorem dX12_isOf_12 : decode cX12_isOf 12 = .ok (.if_icmp .eq 8, 3) := by decide +kernel
theorem dX12_isOf_15 : decode cX12_isOf 15 = .ok (.iload_n 0, 1) := by decide +kernel
theorem dX12_isOf_16 : decode cX12_isOf 16 = .ok (.iconst 4, 1) := by decide +kernel
theorem dX12_isOf_17 : decode cX12_isOf 17 = .ok (.if_icmp .ne 7, 3) := by decide +kernel
theorem dX12_isOf_20 : decode cX12_isOf 20 = .ok (.iconst 1, 1) := by decide +kernel
theorem dX12_isOf_21 : decode cX12_isOf 21 = .ok (.goto 4, 3) := by decide +kernel
theorem dX12_isOf_24 : decode cX12_isOf 24 = .ok (.iconst 0, 1) := by decide +kernel
theorem dX12_isOf_25 : decode cX12_isOf 25 = .ok (.ireturn, 1) := by decide +kernel
theorem dX12_mark_0 : decode cX12_mark 0 = .ok (.aload_n 0, 1) := by decide +kernel
theorem dX12_mark_1 : decode cX12_mark 1 = .ok (.iload_n 1, 1) := by decide +kernel
theorem dX12_mark_2 : decode cX12_mark 2 = .ok (.invokevirtual 307, 3) := by decide +kernel
theorem dX12_mark_5 : decode cX12_mark 5 = .ok (.ifCond .eq 13, 3) := by decide +kernel
theorem dX12_mark_8 : decode cX12_mark 8 = .ok (.iload_n 2, 1) := by decide +kernel
theorem dX12_mark_9 : decode cX12_mark 9 = .ok (.iconst 1, 1) := by decide +kernel
theorem dX12_mark_10 : decode cX12_mark 10 = .ok (.bipush 6, 2) := by decide +kernel
theorem dX12_mark_12 : decode cX12_mark 12 = .ok (.invokestatic 130, 3) := by decide +kernel
theorem dX12_mark_15 : decode cX12_mark 15 = .ok (.ifCond .ne 5, 3) := by decide +kernel
theorem dX12_mark_18 : decode cX12_mark 18 = .ok (.iconst (-1), 1) := by decide +kernel
theorem dX12_mark_19 : decode cX12_mark 19 = .ok (.ireturn, 1) := by decide +kernel
theorem dX12_mark_20 : decode cX12_mark 20 = .ok (.aload_n 0, 1) := by decide +kernel
theorem dX12_mark_21 : decode cX12_mark 21 = .ok (.iload_n 1, 1) := by decide +kernel
theorem dX12_mark_22 : decode cX12_mark 22 = .ok (.iconst 0, 1) := by decide +kernel
theorem dX12_mark_23 : decode cX12_mark 23 = .ok (.invokevirtual 310, 3) := by decide +kernel
theorem dX12_mark_26 : decode cX12_mark 26 = .ok (.iload_n 2, 1) := by decide +kernel
theorem dX12_mark_27 : decode cX12_mark 27 = .ok (.invokestatic 313, 3) := by decide +kernel
theorem dX12_mark_30 : decode cX12_mark 30 = .ok (.ifCond .ne 9, 3) := by decide +kernel
theorem dX12_mark_33 : decode cX12_mark 33 = .ok (.aload_n 0, 1) := by decide +kernel
theorem dX12_mark_34 : decode cX12_mark 34 = .ok (.iconst 3, 1) := by decide +kernel
theorem dX12_mark_35 : decode cX12_mark 35 = .ok (.invokevirtual 138, 3) := by decide +kernel
theorem dX12_mark_38 : decode cX12_mark 38 = .ok (.ireturn, 1) := by decide +kernel
theorem dX12_mark_39 : decode cX12_mark 39 = .ok (.iload_n 2, 1) := by decide +kernel
theorem dX12_mark_40 : decode cX12_mark 40 = .ok (.iconst 3, 1) := by decide +kernel
theorem dX12_mark_41 : decode cX12_mark 41 = .ok (.if_icmp .eq 8, 3) := by decide +kernel
theorem dX12_mark_44 : decode cX12_mark 44 = .ok (.iload_n 2, 1) := by decide +kernel
theorem dX12_mark_45 : decode cX12_mark 45 = .ok (.iconst 4, 1) := by decide +kernel
theorem dX12_mark_46 : decode cX12_mark 46 = .ok (.if_icmp .ne 12, 3) := by decide +kernel
theorem dX12_mark_49 : decode cX12_mark 49 = .ok (.aload_n 0, 1) := by decide +kernel
theorem dX12_mark_50 : decode cX12_mark 50 = .ok (.iload_n 1, 1) := by decide +kernel
theorem dX12_mark_51 : decode cX12_mark 51 = .ok (.iconst 4, 1) := by decide +kernel
theorem dX12_mark_52 : decode cX12_mark 52 = .ok (.invokevirtual 310, 3) := by decide +kernel
theorem dX12_mark_55 : decode cX12_mark 55 = .ok (.goto 28, 3) := by decide +kernel
theorem dX12_mark_58 : decode cX12_mark 58 = .ok (.iload_n 2, 1) := by decide +kernel
theorem dX12_mark_59 : decode cX12_mark 59 = .ok (.iconst 5, 1) := by decide +kernel
theorem dX12_mark_60 : decode cX12_mark 60 = .ok (.if_icmp .ne 17, 3) := by decide +kernel
theorem dX12_mark_63 : decode cX12_mark 63 = .ok (.aload_n 0, 1) := by decide +kernel
theorem dX12_mark_64 : decode cX12_mark 64 = .ok (.getfield 105, 3) := by decide +kernel
theorem dX12_mark_67 : decode cX12_mark 67 = .ok (.aload_n 0, 1) := by decide +kernel
theorem dX12_mark_68 : decode cX12_mark 68 = .ok (.iload_n 1, 1) := by decide +kernel
theorem dX12_mark_69 : decode cX12_mark 69 = .ok (.iconst 3, 1) := by decide +kernel
theorem dX12_mark_70 : decode cX12_mark 70 = .ok (.invokevirtual 310, 3) := by decide +kernel
theorem dX12_mark_73 : decode cX12_mark 73 = .ok (.iaload, 1) := by decide +kernel
theorem dX12_mark_74 : decode cX12_mark 74 = .ok (.goto 9, 3) := by decide +kernel
theorem dX12_mark_77 : decode cX12_mark 77 = .ok (.aload_n 0, 1) := by decide +kernel
theorem dX12_mark_78 : decode cX12_mark 78 = .ok (.iload_n 1, 1) := by decide +kernel
theorem dX12_mark_79 : decode cX12_mark 79 = .ok (.iconst 3, 1) := by decide +kernel
theorem dX12_mark_80 : decode cX12_mark 80 = .ok (.invokevirtual 310, 3) := by decide +kernel
theorem dX12_mark_83 : decode cX12_mark 83 = .ok (.ireturn, 1) := by decide +kernel
theorem dX12_isPlain_0 : decode cX12_isPlain 0 = .ok (.iconst 1, 1) := by decide +kernel
theorem dX12_isPlain_1 : decode cX12_isPlain 1 = .ok (.istore_n 3, 1) := by decide +kernel
theorem dX12_isPlain_2 : decode cX12_isPlain 2 = .ok (.iconst 0, 1) := by decide +kernel
theorem dX12_isPlain_3 : decode cX12_isPlain 3 = .ok (.istore 4, 2) := by decide +kernel
theorem dX12_isPlain_5 : decode cX12_isPlain 5 = .ok (.iload 4, 2) := by decide +kernel
theorem dX12_isPlain_7 : decode cX12_isPlain 7 = .ok (.bipush 8, 2) := by decide +kernel
theorem dX12_isPlain_9 : decode cX12_isPlain 9 = .ok (.if_icmp .ge 54, 3) := by decide +kernel
theorem dX12_isPlain_12 : decode cX12_isPlain 12 = .ok (.iload_n 3, 1) := by decide +kernel
theorem dX12_isPlain_13 : decode cX12_isPlain 13 = .ok (.ifCond .eq 42, 3) := by decide +kernel
theorem dX12_isPlain_16 : decode cX12_isPlain 16 = .ok (.iload 4, 2) := by decide +kernel
theorem dX12_isPlain_18 : decode cX12_isPlain 18 = .ok (.iload_n 1, 1) := by decide +kernel
theorem dX12_isPlain_19 : decode cX12_isPlain 19 = .ok (.if_icmp .eq 32, 3) := by decide +kernel
theorem dX12_isPlain_22 : decode cX12_isPlain 22 = .ok (.aload_n 0, 1) := by decide +kernel
theorem dX12_isPlain_23 : decode cX12_isPlain 23 = .ok (.iload 4, 2) := by decide +kernel
theorem dX12_isPlain_25 : decode cX12_isPlain 25 = .ok (.invokevirtual 164, 3) := by decide +kernel
theorem dX12_isPlain_28 : decode cX12_isPlain 28 = .ok (.ifCond .eq 23, 3) := by decide +kernel
theorem dX12_isPlain_31 : decode cX12_isPlain 31 = .ok (.aload_n 0, 1) := by decide +kernel
theorem dX12_isPlain_32 : decode cX12_isPlain 32 = .ok (.getfield 38, 3) := by decide +kernel
theorem dX12_isPlain_35 : decode cX12_isPlain 35 = .ok (.iload_n 1, 1) := by decide +kernel
theorem dX12_isPlain_36 : decode cX12_isPlain 36 = .ok (.iaload, 1) := by decide +kernel
theorem dX12_isPlain_37 : decode cX12_isPlain 37 = .ok (.aload_n 0, 1) := by decide +kernel
theorem dX12_isPlain_38 : decode cX12_isPlain 38 = .ok (.getfield 38, 3) := by decide +kernel
theorem dX12_isPlain_41 : decode cX12_isPlain 41 = .ok (.iload 4, 2) := by decide +kernel
theorem dX12_isPlain_43 : decode cX12_isPlain 43 = .ok (.iaload, 1) := by decide +kernel
theorem dX12_isPlain_44 : decode cX12_isPlain 44 = .ok (.invokestatic 292, 3) := by decide +kernel
theorem dX12_isPlain_47 : decode cX12_isPlain 47 = .ok (.iload_n 2, 1) := by decide +kernel
theorem dX12_isPlain_48 : decode cX12_isPlain 48 = .ok (.if_icmp .le 7, 3) := by decide +kernel
theorem dX12_isPlain_51 : decode cX12_isPlain 51 = .ok (.iconst 1, 1) := by decide +kernel
theorem dX12_isPlain_52 : decode cX12_isPlain 52 = .ok (.goto 4, 3) := by decide +kernel
theorem dX12_isPlain_55 : decode cX12_isPlain 55 = .ok (.iconst 0, 1) := by decide +kernel
theorem dX12_isPlain_56 : decode cX12_isPlain 56 = .ok (.istore_n 3, 1) := by decide +kernel
theorem dX12_isPlain_57 : decode cX12_isPlain 57 = .ok (.iinc 4 1, 3) := by decide +kernel
theorem dX12_isPlain_60 : decode cX12_isPlain 60 = .ok (.goto (-55), 3) := by decide +kernel
theorem dX12_isPlain_63 : decode cX12_isPlain 63 = .ok (.iload_n 3, 1) := by decide +kernel
theorem dX12_isPlain_64 : decode cX12_isPlain 64 = .ok (.ireturn, 1) := by decide +kernel
theorem dX12_seen_0 : decode cX12_seen 0 = .ok (.iload_n 1, 1) := by decide +kernel
theorem dX12_seen_1 : decode cX12_seen 1 = .ok (.iconst 0, 1) := by decide +kernel
theorem dX12_seen_2 : decode cX12_seen 2 = .ok (.bipush 16, 2) := by decide +kernel
theorem dX12_seen_4 : decode cX12_seen 4 = .ok (.invokestatic 130, 3) := by decide +kernel
theorem dX12_seen_7 : decode cX12_seen 7 = .ok (.ifCond .ne 5, 3) := by decide +kernel
theorem dX12_seen_10 : decode cX12_seen 10 = .ok (.iconst (-1), 1) := by decide +kernel
theorem dX12_seen_11 : decode cX12_seen 11 = .ok (.ireturn, 1) := by decide +kernel
theorem dX12_seen_12 : decode cX12_seen 12 = .ok (.iconst 0, 1) := by decide +kernel
theorem dX12_seen_13 : decode cX12_seen 13 = .ok (.istore_n 3, 1) := by decide +kernel
theorem dX12_seen_14 : decode cX12_seen 14 = .ok (.iconst 0, 1) := by decide +kernel
theorem dX12_seen_15 : decode cX12_seen 15 = .ok (.istore 4, 2) := by decide +kernel
theorem dX12_seen_17 : decode cX12_seen 17 = .ok (.iload 4, 2) := by decide +kernel
theorem dX12_seen_19 : decode cX12_seen 19 = .ok (.aload_n 0, 1) := by decide +kernel
theorem dX12_seen_20 : decode cX12_seen 20 = .ok (.getfield 304, 3) := by decide +kernel
theorem dX12_seen_23 : decode cX12_seen 23 = .ok (.if_icmp .ge 101, 3) := by decide +kernel
theorem dX12_seen_26 : decode cX12_seen 26 = .ok (.aload_n 0, 1) := by decide +kernel
theorem dX12_seen_27 : decode cX12_seen 27 = .ok (.iload 4, 2) := by decide +kernel
theorem dX12_seen_29 : decode cX12_seen 29 = .ok (.iconst 0, 1) := by decide +kernel
theorem dX12_seen_30 : decode cX12_seen 30 = .ok (.invokevirtual 310, 3) := by decide +kernel
theorem dX12_seen_33 : decode cX12_seen 33 = .ok (.istore 5, 2) := by decide +kernel
theorem dX12_seen_35 : decode cX12_seen 35 = .ok (.iload 5, 2) := by decide +kernel
theorem dX12_seen_37 : decode cX12_seen 37 = .ok (.ifCond .eq 27, 3) := by decide +kernel
theorem dX12_seen_40 : decode cX12_seen 40 = .ok (.iload 5, 2) := by decide +kernel
theorem dX12_seen_42 : decode cX12_seen 42 = .ok (.iconst 5, 1) := by decide +kernel
theorem dX12_seen_43 : decode cX12_seen 43 = .ok (.if_icmp .eq 21, 3) := by decide +kernel
theorem dX12_seen_46 : decode cX12_seen 46 = .ok (.aload_n 0, 1) := by decide +kernel
theorem dX12_seen_47 : decode cX12_seen 47 = .ok (.aload_n 0, 1) := by decide +kernel
theorem dX12_seen_48 : decode cX12_seen 48 = .ok (.iload 4, 2) := by decide +kernel
theorem dX12_seen_50 : decode cX12_seen 50 = .ok (.iconst 2, 1) := by decide +kernel
theorem dX12_seen_51 : decode cX12_seen 51 = .ok (.invokevirtual 310, 3) := by decide +kernel
theorem dX12_seen_54 : decode cX12_seen 54 = .ok (.invokevirtual 164, 3) := by decide +kernel
theorem dX12_seen_57 : decode cX12_seen 57 = .ok (.ifCond .eq 7, 3) := by decide +kernel
theorem dX12_seen_60 : decode cX12_seen 60 = .ok (.iconst 1, 1) := by decide +kernel
theorem dX12_seen_61 : decode cX12_seen 61 = .ok (.goto 4, 3) := by decide +kernel
theorem dX12_seen_64 : decode cX12_seen 64 = .ok (.iconst 0, 1) := by decide +kernel
theorem dX12_seen_65 : decode cX12_seen 65 = .ok (.istore 6, 2) := by decide +kernel
theorem dX12_seen_67 : decode cX12_seen 67 = .ok (.iload 6, 2) := by decide +kernel
theorem dX12_seen_69 : decode cX12_seen 69 = .ok (.ifCond .eq 33, 3) := by decide +kernel
theorem dX12_seen_72 : decode cX12_seen 72 = .ok (.iload_n 2, 1) := by decide +kernel
theorem dX12_seen_73 : decode cX12_seen 73 = .ok (.ifCond .ne 25, 3) := by decide +kernel
theorem dX12_seen_76 : decode cX12_seen 76 = .ok (.iload 5, 2) := by decide +kernel
theorem dX12_seen_78 : decode cX12_seen 78 = .ok (.bipush 6, 2) := by decide +kernel
theorem dX12_seen_80 : decode cX12_seen 80 = .ok (.if_icmp .eq 22, 3) := by decide +kernel
theorem dX12_seen_83 : decode cX12_seen 83 = .ok (.aload_n 0, 1) := by decide +kernel
theorem dX12_seen_84 : decode cX12_seen 84 = .ok (.aload_n 0, 1) := by decide +kernel
theorem dX12_seen_85 : decode cX12_seen 85 = .ok (.iload 4, 2) := by decide +kernel
theorem dX12_seen_87 : decode cX12_seen 87 = .ok (.iconst 2, 1) := by decide +kernel
theorem dX12_seen_88 : decode cX12_seen 88 = .ok (.invokevirtual 310, 3) := by decide +kernel
theorem dX12_seen_91 : decode cX12_seen 91 = .ok (.iload_n 1, 1) := by decide +kernel
theorem dX12_seen_92 : decode cX12_seen 92 = .ok (.invokevirtual 316, 3) := by decide +kernel
theorem dX12_seen_95 : decode cX12_seen 95 = .ok (.ifCond .eq 7, 3) := by decide +kernel
theorem dX12_seen_98 : decode cX12_seen 98 = .ok (.iconst 1, 1) := by decide +kernel
theorem dX12_seen_99 : decode cX12_seen 99 = .ok (.goto 4, 3) := by decide +kernel
theorem dX12_seen_102 : decode cX12_seen 102 = .ok (.iconst 0, 1) := by decide +kernel
theorem dX12_seen_103 : decode cX12_seen 103 = .ok (.istore 7, 2) := by decide +kernel
theorem dX12_seen_105 : decode cX12_seen 105 = .ok (.iload_n 3, 1) := by decide +kernel
theorem dX12_seen_106 : decode cX12_seen 106 = .ok (.iload 7, 2) := by decide +kernel
theorem dX12_seen_108 : decode cX12_seen 108 = .ok (.ifCond .eq 7, 3) := by decide +kernel
theorem dX12_seen_111 : decode cX12_seen 111 = .ok (.iconst 1, 1) := by decide +kernel
theorem dX12_seen_112 : decode cX12_seen 112 = .ok (.goto 4, 3) := by decide +kernel
theorem dX12_seen_115 : decode cX12_seen 115 = .ok (.iconst 0, 1) := by decide +kernel
theorem dX12_seen_116 : decode cX12_seen 116 = .ok (.iadd, 1) := by decide +kernel
theorem dX12_seen_117 : decode cX12_seen 117 = .ok (.istore_n 3, 1) := by decide +kernel
theorem dX12_seen_118 : decode cX12_seen 118 = .ok (.iinc 4 1, 3) := by decide +kernel
theorem dX12_seen_121 : decode cX12_seen 121 = .ok (.goto (-104), 3) := by decide +kernel
theorem dX12_seen_124 : decode cX12_seen 124 = .ok (.iload_n 3, 1) := by decide +kernel
theorem dX12_seen_125 : decode cX12_seen 125 = .ok (.ireturn, 1) := by decide +kernel
theorem dX12_broken_0 : decode cX12_broken 0 = .ok (.iload_n 1, 1) := by decide +kernel
theorem dX12_broken_1 : decode cX12_broken 1 = .ok (.invokestatic 161, 3) := by decide +kernel
theorem dX12_broken_4 : decode cX12_broken 4 = .ok (.ifCond .eq 25, 3) := by decide +kernel
theorem dX12_broken_7 : decode cX12_broken 7 = .ok (.iload_n 2, 1) := by decide +kernel
theorem dX12_broken_8 : decode cX12_broken 8 = .ok (.iconst 0, 1) := by decide +kernel
theorem dX12_broken_9 : decode cX12_broken 9 = .ok (.sipush 32000, 3) := by decide +kernel
theorem dX12_broken_12 : decode cX12_broken 12 = .ok (.invokestatic 130, 3) := by decide +kernel
theorem dX12_broken_15 : decode cX12_broken 15 = .ok (.ifCond .eq 14, 3) := by decide +kernel
theorem dX12_broken_18 : decode cX12_broken 18 = .ok (.iload_n 3, 1) := by decide +kernel
theorem dX12_broken_19 : decode cX12_broken 19 = .ok (.iconst 0, 1) := by decide +kernel
theorem dX12_broken_20 : decode cX12_broken 20 = .ok (.sipush 32000, 3) := by decide +kernel
theorem dX12_broken_23 : decode cX12_broken 23 = .ok (.invokestatic 130, 3) := by decide +kernel
theorem dX12_broken_26 : decode cX12_broken 26 = .ok (.ifCond .ne 5, 3) := by decide +kernel
theorem dX12_broken_29 : decode cX12_broken 29 = .ok (.iconst (-1), 1) := by decide +kernel
theorem dX12_broken_30 : decode cX12_broken 30 = .ok (.ireturn, 1) := by decide +kernel
theorem dX12_broken_31 : decode cX12_broken 31 = .ok (.iconst 0, 1) := by decide +kernel
theorem dX12_broken_32 : decode cX12_broken 32 = .ok (.istore 4, 2) := by decide +kernel
theorem dX12_broken_34 : decode cX12_broken 34 = .ok (.bipush (-9), 2) := by decide +kernel
theorem dX12_broken_36 : decode cX12_broken 36 = .ok (.istore 5, 2) := by decide +kernel
theorem dX12_broken_38 : decode cX12_broken 38 = .ok (.iconst 0, 1) := by decide +kernel
theorem dX12_broken_39 : decode cX12_broken 39 = .ok (.istore 6, 2) := by decide +kernel
theorem dX12_broken_41 : decode cX12_broken 41 = .ok (.iload 6, 2) := by decide +kernel
theorem dX12_broken_43 : decode cX12_broken 43 = .ok (.aload_n 0, 1) := by decide +kernel
theorem dX12_broken_44 : decode cX12_broken 44 = .ok (.getfield 304, 3) := by decide +kernel
theorem dX12_broken_47 : decode cX12_broken 47 = .ok (.if_icmp .ge 104, 3) := by decide +kernel
theorem dX12_broken_50 : decode cX12_broken 50 = .ok (.aload_n 0, 1) := by decide +kernel
theorem dX12_broken_51 : decode cX12_broken 51 = .ok (.iload 6, 2) := by decide +kernel
theorem dX12_broken_53 : decode cX12_broken 53 = .ok (.iconst 0, 1) := by decide +kernel
theorem dX12_broken_54 : decode cX12_broken 54 = .ok (.invokevirtual 310, 3) := by decide +kernel
theorem dX12_broken_57 : decode cX12_broken 57 = .ok (.iconst 1, 1) := by decide +kernel
theorem dX12_broken_58 : decode cX12_broken 58 = .ok (.invokestatic 313, 3) := by decide +kernel
theorem dX12_broken_61 : decode cX12_broken 61 = .ok (.ifCond .eq 40, 3) := by decide +kernel
theorem dX12_broken_64 : decode cX12_broken 64 = .ok (.aload_n 0, 1) := by decide +kernel
theorem dX12_broken_65 : decode cX12_broken 65 = .ok (.iload 6, 2) := by decide +kernel
theorem dX12_broken_67 : decode cX12_broken 67 = .ok (.iconst 2, 1) := by decide +kernel
theorem dX12_broken_68 : decode cX12_broken 68 = .ok (.invokevirtual 310, 3) := by decide +kernel
theorem dX12_broken_71 : decode cX12_broken 71 = .ok (.iload_n 1, 1) := by decide +kernel
theorem dX12_broken_72 : decode cX12_broken 72 = .ok (.if_icmp .eq 25, 3) := by decide +kernel
theorem dX12_broken_75 : decode cX12_broken 75 = .ok (.aload_n 0, 1) := by decide +kernel
theorem dX12_broken_76 : decode cX12_broken 76 = .ok (.iload 6, 2) := by decide +kernel
theorem dX12_broken_78 : decode cX12_broken 78 = .ok (.iconst 0, 1) := by decide +kernel
theorem dX12_broken_79 : decode cX12_broken 79 = .ok (.invokevirtual 310, 3) := by decide +kernel
theorem dX12_broken_82 : decode cX12_broken 82 = .ok (.iconst 4, 1) := by decide +kernel
theorem dX12_broken_83 : decode cX12_broken 83 = .ok (.if_icmp .ne 18, 3) := by decide +kernel
theorem dX12_broken_86 : decode cX12_broken 86 = .ok (.aload_n 0, 1) := by decide +kernel
theorem dX12_broken_87 : decode cX12_broken 87 = .ok (.iload 6, 2) := by decide +kernel
theorem dX12_broken_89 : decode cX12_broken 89 = .ok (.iconst 4, 1) := by decide +kernel
theorem dX12_broken_90 : decode cX12_broken 90 = .ok (.invokevirtual 310, 3) := by decide +kernel
theorem dX12_broken_93 : decode cX12_broken 93 = .ok (.iload_n 1, 1) := by decide +kernel
theorem dX12_broken_94 : decode cX12_broken 94 = .ok (.if_icmp .ne 7, 3) := by decide +kernel
theorem dX12_broken_97 : decode cX12_broken 97 = .ok (.iconst 1, 1) := by decide +kernel
theorem dX12_broken_98 : decode cX12_broken 98 = .ok (.goto 4, 3) := by decide +kernel
theorem dX12_broken_101 : decode cX12_broken 101 = .ok (.iconst 0, 1) := by decide +kernel
theorem dX12_broken_102 : decode cX12_broken 102 = .ok (.istore 7, 2) := by decide +kernel
theorem dX12_broken_104 : decode cX12_broken 104 = .ok (.iload 7, 2) := by decide +kernel
theorem dX12_broken_106 : decode cX12_broken 106 = .ok (.ifCond .eq 39, 3) := by decide +kernel
theorem dX12_broken_109 : decode cX12_broken 109 = .ok (.aload_n 0, 1) := by decide +kernel
theorem dX12_broken_110 : decode cX12_broken 110 = .ok (.iload 6, 2) := by decide +kernel
theorem dX12_broken_112 : decode cX12_broken 112 = .ok (.iconst 1, 1) := by decide +kernel
theorem dX12_broken_113 : decode cX12_broken 113 = .ok (.invokevirtual 310, 3) := by decide +kernel
theorem dX12_broken_116 : decode cX12_broken 116 = .ok (.iload_n 2, 1) := by decide +kernel
theorem dX12_broken_117 : decode cX12_broken 117 = .ok (.iload_n 2, 1) := by decide +kernel
theorem dX12_broken_118 : decode cX12_broken 118 = .ok (.iload_n 3, 1) := by decide +kernel
theorem dX12_broken_119 : decode cX12_broken 119 = .ok (.iadd, 1) := by decide +kernel
theorem dX12_broken_120 : decode cX12_broken 120 = .ok (.iconst 1, 1) := by decide +kernel
theorem dX12_broken_121 : decode cX12_broken 121 = .ok (.isub, 1) := by decide +kernel
theorem dX12_broken_122 : decode cX12_broken 122 = .ok (.invokestatic 130, 3) := by decide +kernel
theorem dX12_broken_125 : decode cX12_broken 125 = .ok (.ifCond .eq 20, 3) := by decide +kernel
theorem dX12_broken_128 : decode cX12_broken 128 = .ok (.iload 4, 2) := by decide +kernel
theorem dX12_broken_130 : decode cX12_broken 130 = .ok (.ifCond .ne 8, 3) := by decide +kernel
theorem dX12_broken_133 : decode cX12_broken 133 = .ok (.iload 6, 2) := by decide +kernel
theorem dX12_broken_135 : decode cX12_broken 135 = .ok (.goto 5, 3) := by decide +kernel
theorem dX12_broken_138 : decode cX12_broken 138 = .ok (.iload 5, 2) := by decide +kernel
theorem dX12_broken_140 : decode cX12_broken 140 = .ok (.istore 5, 2) := by decide +kernel
theorem dX12_broken_142 : decode cX12_broken 142 = .ok (.iinc 4 1, 3) := by decide +kernel
theorem dX12_broken_145 : decode cX12_broken 145 = .ok (.iinc 6 1, 3) := by decide +kernel
theorem dX12_broken_148 : decode cX12_broken 148 = .ok (.goto (-107), 3) := by decide +kernel
theorem dX12_broken_151 : decode cX12_broken 151 = .ok (.aload_n 0, 1) := by decide +kernel
theorem dX12_broken_152 : decode cX12_broken 152 = .ok (.iload 5, 2) := by decide +kernel
theorem dX12_broken_154 : decode cX12_broken 154 = .ok (.iload 4, 2) := by decide +kernel
theorem dX12_broken_156 : decode cX12_broken 156 = .ok (.invokevirtual 152, 3) := by decide +kernel
theorem dX12_broken_159 : decode cX12_broken 159 = .ok (.ireturn, 1) := by decide +kernel
theorem dX12_isAhead_0 : decode cX12_isAhead 0 = .ok (.aload_n 0, 1) := by decide +kernel
theorem dX12_isAhead_1 : decode cX12_isAhead 1 = .ok (.iload_n 1, 1) := by decide +kernel
theorem dX12_isAhead_2 : decode cX12_isAhead 2 = .ok (.iconst 1, 1) := by decide +kernel
theorem dX12_isAhead_3 : decode cX12_isAhead 3 = .ok (.invokevirtual 310, 3) := by decide +kernel
theorem dX12_isAhead_6 : decode cX12_isAhead 6 = .ok (.aload_n 0, 1) := by decide +kernel
theorem dX12_isAhead_7 : decode cX12_isAhead 7 = .ok (.iload_n 2, 1) := by decide +kernel
theorem dX12_isAhead_8 : decode cX12_isAhead 8 = .ok (.iconst 1, 1) := by decide +kernel
theorem dX12_isAhead_9 : decode cX12_isAhead 9 = .ok (.invokevirtual 310, 3) := by decide +kernel
theorem dX12_isAhead_12 : decode cX12_isAhead 12 = .ok (.if_icmp .lt 23, 3) := by decide +kernel
theorem dX12_isAhead_15 : decode cX12_isAhead 15 = .ok (.aload_n 0, 1) := by decide +kernel
theorem dX12_isAhead_16 : decode cX12_isAhead 16 = .ok (.iload_n 1, 1) := by decide +kernel
theorem dX12_isAhead_17 : decode cX12_isAhead 17 = .ok (.iconst 1, 1) := by decide +kernel
theorem dX12_isAhead_18 : decode cX12_isAhead 18 = .ok (.invokevirtual 310, 3) := by decide +kernel
theorem dX12_isAhead_21 : decode cX12_isAhead 21 = .ok (.aload_n 0, 1) := by decide +kernel
theorem dX12_isAhead_22 : decode cX12_isAhead 22 = .ok (.iload_n 2, 1) := by decide +kernel
theorem dX12_isAhead_23 : decode cX12_isAhead 23 = .ok (.iconst 1, 1) := by decide +kernel
theorem dX12_isAhead_24 : decode cX12_isAhead 24 = .ok (.invokevirtual 310, 3) := by decide +kernel
theorem dX12_isAhead_27 : decode cX12_isAhead 27 = .ok (.if_icmp .ne 12, 3) := by decide +kernel
theorem dX12_isAhead_30 : decode cX12_isAhead 30 = .ok (.iload_n 1, 1) := by decide +kernel
theorem dX12_isAhead_31 : decode cX12_isAhead 31 = .ok (.iload_n 2, 1) := by decide +kernel
theorem dX12_isAhead_32 : decode cX12_isAhead 32 = .ok (.if_icmp .ge 7, 3) := by decide +kernel
theorem dX12_isAhead_35 : decode cX12_isAhead 35 = .ok (.iconst 1, 1) := by decide +kernel
theorem dX12_isAhead_36 : decode cX12_isAhead 36 = .ok (.goto 4, 3) := by decide +kernel
theorem dX12_isAhead_39 : decode cX12_isAhead 39 = .ok (.iconst 0, 1) := by decide +kernel
theorem dX12_isAhead_40 : decode cX12_isAhead 40 = .ok (.ireturn, 1) := by decide +kernel
theorem dX12_isMistaken_0 : decode cX12_isMistaken 0 = .ok (.iload_n 1, 1) := by decide +kernel
theorem dX12_isMistaken_1 : decode cX12_isMistaken 1 = .ok (.istore_n 2, 1) := by decide +kernel
theorem dX12_isMistaken_2 : decode cX12_isMistaken 2 = .ok (.iconst 0, 1) := by decide +kernel
theorem dX12_isMistaken_3 : decode cX12_isMistaken 3 = .ok (.istore_n 3, 1) := by decide +kernel
theorem dX12_isMistaken_4 : decode cX12_isMistaken 4 = .ok (.iconst 0, 1) := by decide +kernel
theorem dX12_isMistaken_5 : decode cX12_isMistaken 5 = .ok (.istore 4, 2) := by decide +kernel
theorem dX12_isMistaken_7 : decode cX12_isMistaken 7 = .ok (.iload 4, 2) := by decide +kernel
theorem dX12_isMistaken_9 : decode cX12_isMistaken 9 = .ok (.aload_n 0, 1) := by decide +kernel
theorem dX12_isMistaken_10 : decode cX12_isMistaken 10 = .ok (.getfield 304, 3) := by decide +kernel
theorem dX12_isMistaken_13 : decode cX12_isMistaken 13 = .ok (.if_icmp .ge 106, 3) := by decide +kernel
theorem dX12_isMistaken_16 : decode cX12_isMistaken 16 = .ok (.aload_n 0, 1) := by decide +kernel
theorem dX12_isMistaken_17 : decode cX12_isMistaken 17 = .ok (.iload 4, 2) := by decide +kernel
theorem dX12_isMistaken_19 : decode cX12_isMistaken 19 = .ok (.iconst 0, 1) := by decide +kernel
theorem dX12_isMistaken_20 : decode cX12_isMistaken 20 = .ok (.invokevirtual 310, 3) := by decide +kernel
theorem dX12_isMistaken_23 : decode cX12_isMistaken 23 = .ok (.bipush 6, 2) := by decide +kernel
theorem dX12_isMistaken_25 : decode cX12_isMistaken 25 = .ok (.if_icmp .ne 88, 3) := by decide +kernel
theorem dX12_isMistaken_28 : decode cX12_isMistaken 28 = .ok (.aload_n 0, 1) := by decide +kernel
theorem dX12_isMistaken_29 : decode cX12_isMistaken 29 = .ok (.iload 4, 2) := by decide +kernel
theorem dX12_isMistaken_31 : decode cX12_isMistaken 31 = .ok (.iload_n 1, 1) := by decide +kernel
theorem dX12_isMistaken_32 : decode cX12_isMistaken 32 = .ok (.invokevirtual 319, 3) := by decide +kernel
theorem dX12_isMistaken_35 : decode cX12_isMistaken 35 = .ok (.ifCond .eq 78, 3) := by decide +kernel
theorem dX12_isMistaken_38 : decode cX12_isMistaken 38 = .ok (.aload_n 0, 1) := by decide +kernel
theorem dX12_isMistaken_39 : decode cX12_isMistaken 39 = .ok (.iload 4, 2) := by decide +kernel
theorem dX12_isMistaken_41 : decode cX12_isMistaken 41 = .ok (.iconst 2, 1) := by decide +kernel
theorem dX12_isMistaken_42 : decode cX12_isMistaken 42 = .ok (.invokevirtual 310, 3) := by decide +kernel
theorem dX12_isMistaken_45 : decode cX12_isMistaken 45 = .ok (.aload_n 0, 1) := by decide +kernel
theorem dX12_isMistaken_46 : decode cX12_isMistaken 46 = .ok (.iload_n 1, 1) := by decide +kernel
theorem dX12_isMistaken_47 : decode cX12_isMistaken 47 = .ok (.iconst 2, 1) := by decide +kernel
theorem dX12_isMistaken_48 : decode cX12_isMistaken 48 = .ok (.invokevirtual 310, 3) := by decide +kernel
theorem dX12_isMistaken_51 : decode cX12_isMistaken 51 = .ok (.if_icmp .ne 18, 3) := by decide +kernel
theorem dX12_isMistaken_54 : decode cX12_isMistaken 54 = .ok (.aload_n 0, 1) := by decide +kernel
theorem dX12_isMistaken_55 : decode cX12_isMistaken 55 = .ok (.iload 4, 2) := by decide +kernel
theorem dX12_isMistaken_57 : decode cX12_isMistaken 57 = .ok (.iload_n 2, 1) := by decide +kernel
theorem dX12_isMistaken_58 : decode cX12_isMistaken 58 = .ok (.invokevirtual 319, 3) := by decide +kernel
theorem dX12_isMistaken_61 : decode cX12_isMistaken 61 = .ok (.ifCond .eq 8, 3) := by decide +kernel
theorem dX12_isMistaken_64 : decode cX12_isMistaken 64 = .ok (.iload 4, 2) := by decide +kernel
theorem dX12_isMistaken_66 : decode cX12_isMistaken 66 = .ok (.goto 4, 3) := by decide +kernel
theorem dX12_isMistaken_69 : decode cX12_isMistaken 69 = .ok (.iload_n 2, 1) := by decide +kernel
theorem dX12_isMistaken_70 : decode cX12_isMistaken 70 = .ok (.istore_n 2, 1) := by decide +kernel
theorem dX12_isMistaken_71 : decode cX12_isMistaken 71 = .ok (.iload_n 3, 1) := by decide +kernel
theorem dX12_isMistaken_72 : decode cX12_isMistaken 72 = .ok (.ifCond .ne 35, 3) := by decide +kernel
theorem dX12_isMistaken_75 : decode cX12_isMistaken 75 = .ok (.aload_n 0, 1) := by decide +kernel
theorem dX12_isMistaken_76 : decode cX12_isMistaken 76 = .ok (.iload 4, 2) := by decide +kernel
theorem dX12_isMistaken_78 : decode cX12_isMistaken 78 = .ok (.iconst 2, 1) := by decide +kernel
theorem dX12_isMistaken_79 : decode cX12_isMistaken 79 = .ok (.invokevirtual 310, 3) := by decide +kernel
theorem dX12_isMistaken_82 : decode cX12_isMistaken 82 = .ok (.aload_n 0, 1) := by decide +kernel
theorem dX12_isMistaken_83 : decode cX12_isMistaken 83 = .ok (.iload_n 1, 1) := by decide +kernel
theorem dX12_isMistaken_84 : decode cX12_isMistaken 84 = .ok (.iconst 2, 1) := by decide +kernel
theorem dX12_isMistaken_85 : decode cX12_isMistaken 85 = .ok (.invokevirtual 310, 3) := by decide +kernel
theorem dX12_isMistaken_88 : decode cX12_isMistaken 88 = .ok (.if_icmp .eq 23, 3) := by decide +kernel
theorem dX12_isMistaken_91 : decode cX12_isMistaken 91 = .ok (.aload_n 0, 1) := by decide +kernel
theorem dX12_isMistaken_92 : decode cX12_isMistaken 92 = .ok (.iload 4, 2) := by decide +kernel
theorem dX12_isMistaken_94 : decode cX12_isMistaken 94 = .ok (.iconst 3, 1) := by decide +kernel
theorem dX12_isMistaken_95 : decode cX12_isMistaken 95 = .ok (.invokevirtual 310, 3) := by decide +kernel
theorem dX12_isMistaken_98 : decode cX12_isMistaken 98 = .ok (.aload_n 0, 1) := by decide +kernel
theorem dX12_isMistaken_99 : decode cX12_isMistaken 99 = .ok (.iload_n 1, 1) := by decide +kernel
theorem dX12_isMistaken_100 : decode cX12_isMistaken 100 = .ok (.iconst 3, 1) := by decide +kernel
theorem dX12_isMistaken_101 : decode cX12_isMistaken 101 = .ok (.invokevirtual 310, 3) := by decide +kernel
theorem dX12_isMistaken_104 : decode cX12_isMistaken 104 = .ok (.if_icmp .ne 7, 3) := by decide +kernel
theorem dX12_isMistaken_107 : decode cX12_isMistaken 107 = .ok (.iconst 1, 1) := by decide +kernel
theorem dX12_isMistaken_108 : decode cX12_isMistaken 108 = .ok (.goto 4, 3) := by decide +kernel
theorem dX12_isMistaken_111 : decode cX12_isMistaken 111 = .ok (.iconst 0, 1) := by decide +kernel
theorem dX12_isMistaken_112 : decode cX12_isMistaken 112 = .ok (.istore_n 3, 1) := by decide +kernel
theorem dX12_isMistaken_113 : decode cX12_isMistaken 113 = .ok (.iinc 4 1, 3) := by decide +kernel
theorem dX12_isMistaken_116 : decode cX12_isMistaken 116 = .ok (.goto (-109), 3) := by decide +kernel
theorem dX12_isMistaken_119 : decode cX12_isMistaken 119 = .ok (.iload_n 3, 1) := by decide +kernel
theorem dX12_isMistaken_120 : decode cX12_isMistaken 120 = .ok (.ifCond .ne 18, 3) := by decide +kernel
theorem dX12_isMistaken_123 : decode cX12_isMistaken 123 = .ok (.aload_n 0, 1) := by decide +kernel
theorem dX12_isMistaken_124 : decode cX12_isMistaken 124 = .ok (.iload_n 2, 1) := by decide +kernel
theorem dX12_isMistaken_125 : decode cX12_isMistaken 125 = .ok (.iconst 3, 1) := by decide +kernel
theorem dX12_isMistaken_126 : decode cX12_isMistaken 126 = .ok (.invokevirtual 310, 3) := by decide +kernel
theorem dX12_isMistaken_129 : decode cX12_isMistaken 129 = .ok (.aload_n 0, 1) := by decide +kernel
theorem dX12_isMistaken_130 : decode cX12_isMistaken 130 = .ok (.iload_n 1, 1) := by decide +kernel
theorem dX12_isMistaken_131 : decode cX12_isMistaken 131 = .ok (.iconst 3, 1) := by decide +kernel
theorem dX12_isMistaken_132 : decode cX12_isMistaken 132 = .ok (.invokevirtual 310, 3) := by decide +kernel
theorem dX12_isMistaken_135 : decode cX12_isMistaken 135 = .ok (.if_icmp .eq 7, 3) := by decide +kernel
theorem dX12_isMistaken_138 : decode cX12_isMistaken 138 = .ok (.iconst 1, 1) := by decide +kernel
theorem dX12_isMistaken_139 : decode cX12_isMistaken 139 = .ok (.goto 4, 3) := by decide +kernel
theorem dX12_isMistaken_142 : decode cX12_isMistaken 142 = .ok (.iconst 0, 1) := by decide +kernel
theorem dX12_isMistaken_143 : decode cX12_isMistaken 143 = .ok (.ireturn, 1) := by decide +kernel
theorem dX12_mistaken_0 : decode cX12_mistaken 0 = .ok (.iconst 0, 1) := by decide +kernel
theorem dX12_mistaken_1 : decode cX12_mistaken 1 = .ok (.istore_n 1, 1) := by decide +kernel
theorem dX12_mistaken_2 : decode cX12_mistaken 2 = .ok (.bipush (-9), 2) := by decide +kernel
theorem dX12_mistaken_4 : decode cX12_mistaken 4 = .ok (.istore_n 2, 1) := by decide +kernel
theorem dX12_mistaken_5 : decode cX12_mistaken 5 = .ok (.iconst 0, 1) := by decide +kernel
theorem dX12_mistaken_6 : decode cX12_mistaken 6 = .ok (.istore_n 3, 1) := by decide +kernel
theorem dX12_mistaken_7 : decode cX12_mistaken 7 = .ok (.iload_n 3, 1) := by decide +kernel
theorem dX12_mistaken_8 : decode cX12_mistaken 8 = .ok (.aload_n 0, 1) := by decide +kernel
theorem dX12_mistaken_9 : decode cX12_mistaken 9 = .ok (.getfield 304, 3) := by decide +kernel
theorem dX12_mistaken_12 : decode cX12_mistaken 12 = .ok (.if_icmp .ge 50, 3) := by decide +kernel
theorem dX12_mistaken_15 : decode cX12_mistaken 15 = .ok (.aload_n 0, 1) := by decide +kernel
theorem dX12_mistaken_16 : decode cX12_mistaken 16 = .ok (.iload_n 3, 1) := by decide +kernel
theorem dX12_mistaken_17 : decode cX12_mistaken 17 = .ok (.iconst 0, 1) := by decide +kernel
theorem dX12_mistaken_18 : decode cX12_mistaken 18 = .ok (.invokevirtual 310, 3) := by decide +kernel
theorem dX12_mistaken_21 : decode cX12_mistaken 21 = .ok (.bipush 6, 2) := by decide +kernel
theorem dX12_mistaken_23 : decode cX12_mistaken 23 = .ok (.if_icmp .ne 33, 3) := by decide +kernel
theorem dX12_mistaken_26 : decode cX12_mistaken 26 = .ok (.aload_n 0, 1) := by decide +kernel
theorem dX12_mistaken_27 : decode cX12_mistaken 27 = .ok (.iload_n 3, 1) := by decide +kernel
theorem dX12_mistaken_28 : decode cX12_mistaken 28 = .ok (.invokevirtual 322, 3) := by decide +kernel
theorem dX12_mistaken_31 : decode cX12_mistaken 31 = .ok (.ifCond .eq 25, 3) := by decide +kernel
theorem dX12_mistaken_34 : decode cX12_mistaken 34 = .ok (.iload_n 2, 1) := by decide +kernel
theorem dX12_mistaken_35 : decode cX12_mistaken 35 = .ok (.ifCond .lt 12, 3) := by decide +kernel
theorem dX12_mistaken_38 : decode cX12_mistaken 38 = .ok (.aload_n 0, 1) := by decide +kernel
theorem dX12_mistaken_39 : decode cX12_mistaken 39 = .ok (.iload_n 3, 1) := by decide +kernel
theorem dX12_mistaken_40 : decode cX12_mistaken 40 = .ok (.iload_n 2, 1) := by decide +kernel
theorem dX12_mistaken_41 : decode cX12_mistaken 41 = .ok (.invokevirtual 319, 3) := by decide +kernel
theorem dX12_mistaken_44 : decode cX12_mistaken 44 = .ok (.ifCond .eq 7, 3) := by decide +kernel
theorem dX12_mistaken_47 : decode cX12_mistaken 47 = .ok (.iload_n 3, 1) := by decide +kernel
theorem dX12_mistaken_48 : decode cX12_mistaken 48 = .ok (.goto 4, 3) := by decide +kernel
theorem dX12_mistaken_51 : decode cX12_mistaken 51 = .ok (.iload_n 2, 1) := by decide +kernel
theorem dX12_mistaken_52 : decode cX12_mistaken 52 = .ok (.istore_n 2, 1) := by decide +kernel
theorem dX12_mistaken_53 : decode cX12_mistaken 53 = .ok (.iinc 1 1, 3) := by decide +kernel
theorem dX12_mistaken_56 : decode cX12_mistaken 56 = .ok (.iinc 3 1, 3) := by decide +kernel
theorem dX12_mistaken_59 : decode cX12_mistaken 59 = .ok (.goto (-52), 3) := by decide +kernel
theorem dX12_mistaken_62 : decode cX12_mistaken 62 = .ok (.aload_n 0, 1) := by decide +kernel
theorem dX12_mistaken_63 : decode cX12_mistaken 63 = .ok (.iload_n 2, 1) := by decide +kernel
theorem dX12_mistaken_64 : decode cX12_mistaken 64 = .ok (.iload_n 1, 1) := by decide +kernel
theorem dX12_mistaken_65 : decode cX12_mistaken 65 = .ok (.invokevirtual 152, 3) := by decide +kernel
theorem dX12_mistaken_68 : decode cX12_mistaken 68 = .ok (.ireturn, 1) := by decide +kernel
theorem dX12_asked_0 : decode cX12_asked 0 = .ok (.aload_n 0, 1) := by decide +kernel
theorem dX12_asked_1 : decode cX12_asked 1 = .ok (.getfield 124, 3) := by decide +kernel
theorem dX12_asked_4 : decode cX12_asked 4 = .ok (.ireturn, 1) := by decide +kernel
theorem dX12_upper_0 : decode cX12_upper 0 = .ok (.aload_n 0, 1) := by decide +kernel
theorem dX12_upper_1 : decode cX12_upper 1 = .ok (.getfield 127, 3) := by decide +kernel
theorem dX12_upper_4 : decode cX12_upper 4 = .ok (.lreturn, 1) := by decide +kernel
theorem dX12_lower_0 : decode cX12_lower 0 = .ok (.aload_n 0, 1) := by decide +kernel
theorem dX12_lower_1 : decode cX12_lower 1 = .ok (.getfield 13, 3) := by decide +kernel
theorem dX12_lower_4 : decode cX12_lower 4 = .ok (.lreturn, 1) := by decide +kernel
theorem dX12_counts_0 : decode cX12_counts 0 = .ok (.iconst 0, 1) := by decide +kernel
theorem dX12_counts_1 : decode cX12_counts 1 = .ok (.istore_n 2, 1) := by decide +kernel
theorem dX12_counts_2 : decode cX12_counts 2 = .ok (.iconst 0, 1) := by decide +kernel
theorem dX12_counts_3 : decode cX12_counts 3 = .ok (.istore_n 3, 1) := by decide +kernel
theorem dX12_counts_4 : decode cX12_counts 4 = .ok (.iload_n 3, 1) := by decide +kernel
theorem dX12_counts_5 : decode cX12_counts 5 = .ok (.bipush 6, 2) := by decide +kernel
theorem dX12_counts_7 : decode cX12_counts 7 = .ok (.if_icmp .ge 30, 3) := by decide +kernel
theorem dX12_counts_10 : decode cX12_counts 10 = .ok (.iload_n 2, 1) := by decide +kernel
theorem dX12_counts_11 : decode cX12_counts 11 = .ok (.iload_n 1, 1) := by decide +kernel
theorem dX12_counts_12 : decode cX12_counts 12 = .ok (.ifCond .ne 16, 3) := by decide +kernel
theorem dX12_counts_15 : decode cX12_counts 15 = .ok (.aload_n 0, 1) := by decide +kernel
theorem dX12_counts_16 : decode cX12_counts 16 = .ok (.getfield 17, 3) := by decide +kernel
theorem dX12_counts_19 : decode cX12_counts 19 = .ok (.iload_n 3, 1) := by decide +kernel
theorem dX12_counts_20 : decode cX12_counts 20 = .ok (.iaload, 1) := by decide +kernel
theorem dX12_counts_21 : decode cX12_counts 21 = .ok (.ifCond .lt 7, 3) := by decide +kernel
theorem dX12_counts_24 : decode cX12_counts 24 = .ok (.iconst 1, 1) := by decide +kernel
theorem dX12_counts_25 : decode cX12_counts 25 = .ok (.goto 4, 3) := by decide +kernel
theorem dX12_counts_28 : decode cX12_counts 28 = .ok (.iconst 0, 1) := by decide +kernel
theorem dX12_counts_29 : decode cX12_counts 29 = .ok (.iadd, 1) := by decide +kernel
theorem dX12_counts_30 : decode cX12_counts 30 = .ok (.istore_n 2, 1) := by decide +kernel
theorem dX12_counts_31 : decode cX12_counts 31 = .ok (.iinc 3 1, 3) := by decide +kernel
theorem dX12_counts_34 : decode cX12_counts 34 = .ok (.goto (-30), 3) := by decide +kernel
theorem dX12_counts_37 : decode cX12_counts 37 = .ok (.iconst 0, 1) := by decide +kernel
theorem dX12_counts_38 : decode cX12_counts 38 = .ok (.istore_n 3, 1) := by decide +kernel
theorem dX12_counts_39 : decode cX12_counts 39 = .ok (.iload_n 3, 1) := by decide +kernel
theorem dX12_counts_40 : decode cX12_counts 40 = .ok (.iconst 4, 1) := by decide +kernel
theorem dX12_counts_41 : decode cX12_counts 41 = .ok (.if_icmp .ge 31, 3) := by decide +kernel
theorem dX12_counts_44 : decode cX12_counts 44 = .ok (.iload_n 2, 1) := by decide +kernel
theorem dX12_counts_45 : decode cX12_counts 45 = .ok (.iload_n 1, 1) := by decide +kernel
theorem dX12_counts_46 : decode cX12_counts 46 = .ok (.iconst 1, 1) := by decide +kernel
theorem dX12_counts_47 : decode cX12_counts 47 = .ok (.if_icmp .ne 16, 3) := by decide +kernel
theorem dX12_counts_50 : decode cX12_counts 50 = .ok (.aload_n 0, 1) := by decide +kernel
theorem dX12_counts_51 : decode cX12_counts 51 = .ok (.getfield 26, 3) := by decide +kernel
theorem dX12_counts_54 : decode cX12_counts 54 = .ok (.iload_n 3, 1) := by decide +kernel
theorem dX12_counts_55 : decode cX12_counts 55 = .ok (.iaload, 1) := by decide +kernel
theorem dX12_counts_56 : decode cX12_counts 56 = .ok (.ifCond .lt 7, 3) := by decide +kernel
theorem dX12_counts_59 : decode cX12_counts 59 = .ok (.iconst 1, 1) := by decide +kernel
theorem dX12_counts_60 : decode cX12_counts 60 = .ok (.goto 4, 3) := by decide +kernel
theorem dX12_counts_63 : decode cX12_counts 63 = .ok (.iconst 0, 1) := by decide +kernel
theorem dX12_counts_64 : decode cX12_counts 64 = .ok (.iadd, 1) := by decide +kernel
theorem dX12_counts_65 : decode cX12_counts 65 = .ok (.istore_n 2, 1) := by decide +kernel
theorem dX12_counts_66 : decode cX12_counts 66 = .ok (.iinc 3 1, 3) := by decide +kernel
theorem dX12_counts_69 : decode cX12_counts 69 = .ok (.goto (-30), 3) := by decide +kernel
theorem dX12_counts_72 : decode cX12_counts 72 = .ok (.iconst 0, 1) := by decide +kernel
theorem dX12_counts_73 : decode cX12_counts 73 = .ok (.istore_n 3, 1) := by decide +kernel
theorem dX12_counts_74 : decode cX12_counts 74 = .ok (.iload_n 3, 1) := by decide +kernel
theorem dX12_counts_75 : decode cX12_counts 75 = .ok (.bipush 8, 2) := by decide +kernel
theorem dX12_counts_77 : decode cX12_counts 77 = .ok (.if_icmp .ge 44, 3) := by decide +kernel
theorem dX12_counts_80 : decode cX12_counts 80 = .ok (.iload_n 2, 1) := by decide +kernel
theorem dX12_counts_81 : decode cX12_counts 81 = .ok (.iload_n 1, 1) := by decide +kernel
theorem dX12_counts_82 : decode cX12_counts 82 = .ok (.iconst 2, 1) := by decide +kernel
theorem dX12_counts_83 : decode cX12_counts 83 = .ok (.if_icmp .ne 11, 3) := by decide +kernel
theorem dX12_counts_86 : decode cX12_counts 86 = .ok (.aload_n 0, 1) := by decide +kernel
theorem dX12_counts_87 : decode cX12_counts 87 = .ok (.iload_n 3, 1) := by decide +kernel
theorem dX12_counts_88 : decode cX12_counts 88 = .ok (.invokevirtual 164, 3) := by decide +kernel
theorem dX12_counts_91 : decode cX12_counts 91 = .ok (.ifCond .ne 17, 3) := by decide +kernel
theorem dX12_counts_94 : decode cX12_counts 94 = .ok (.iload_n 1, 1) := by decide +kernel
theorem dX12_counts_95 : decode cX12_counts 95 = .ok (.iconst 4, 1) := by decide +kernel
theorem dX12_counts_96 : decode cX12_counts 96 = .ok (.if_icmp .ne 16, 3) := by decide +kernel
theorem dX12_counts_99 : decode cX12_counts 99 = .ok (.aload_n 0, 1) := by decide +kernel
theorem dX12_counts_100 : decode cX12_counts 100 = .ok (.getfield 105, 3) := by decide +kernel
theorem dX12_counts_103 : decode cX12_counts 103 = .ok (.iload_n 3, 1) := by decide +kernel
theorem dX12_counts_104 : decode cX12_counts 104 = .ok (.iaload, 1) := by decide +kernel
theorem dX12_counts_105 : decode cX12_counts 105 = .ok (.ifCond .le 7, 3) := by decide +kernel
theorem dX12_counts_108 : decode cX12_counts 108 = .ok (.iconst 1, 1) := by decide +kernel
theorem dX12_counts_109 : decode cX12_counts 109 = .ok (.goto 4, 3) := by decide +kernel
theorem dX12_counts_112 : decode cX12_counts 112 = .ok (.iconst 0, 1) := by decide +kernel
theorem dX12_counts_113 : decode cX12_counts 113 = .ok (.iadd, 1) := by decide +kernel
theorem dX12_counts_114 : decode cX12_counts 114 = .ok (.istore_n 2, 1) := by decide +kernel
theorem dX12_counts_115 : decode cX12_counts 115 = .ok (.iinc 3 1, 3) := by decide +kernel
theorem dX12_counts_118 : decode cX12_counts 118 = .ok (.goto (-44), 3) := by decide +kernel
theorem dX12_counts_121 : decode cX12_counts 121 = .ok (.iconst 0, 1) := by decide +kernel
theorem dX12_counts_122 : decode cX12_counts 122 = .ok (.istore_n 3, 1) := by decide +kernel
theorem dX12_counts_123 : decode cX12_counts 123 = .ok (.iload_n 3, 1) := by decide +kernel
theorem dX12_counts_124 : decode cX12_counts 124 = .ok (.aload_n 0, 1) := by decide +kernel
theorem dX12_counts_125 : decode cX12_counts 125 = .ok (.getfield 304, 3) := by decide +kernel
theorem dX12_counts_128 : decode cX12_counts 128 = .ok (.if_icmp .ge 41, 3) := by decide +kernel
theorem dX12_counts_131 : decode cX12_counts 131 = .ok (.iload_n 2, 1) := by decide +kernel
theorem dX12_counts_132 : decode cX12_counts 132 = .ok (.iload_n 1, 1) := by decide +kernel
theorem dX12_counts_133 : decode cX12_counts 133 = .ok (.iconst 5, 1) := by decide +kernel
theorem dX12_counts_134 : decode cX12_counts 134 = .ok (.if_icmp .eq 22, 3) := by decide +kernel
theorem dX12_counts_137 : decode cX12_counts 137 = .ok (.iload_n 1, 1) := by decide +kernel
theorem dX12_counts_138 : decode cX12_counts 138 = .ok (.bipush 6, 2) := by decide +kernel
theorem dX12_counts_140 : decode cX12_counts 140 = .ok (.if_icmp .ne 20, 3) := by decide +kernel
theorem dX12_counts_143 : decode cX12_counts 143 = .ok (.aload_n 0, 1) := by decide +kernel
theorem dX12_counts_144 : decode cX12_counts 144 = .ok (.iload_n 3, 1) := by decide +kernel
theorem dX12_counts_145 : decode cX12_counts 145 = .ok (.iconst 0, 1) := by decide +kernel
theorem dX12_counts_146 : decode cX12_counts 146 = .ok (.invokevirtual 310, 3) := by decide +kernel
theorem dX12_counts_149 : decode cX12_counts 149 = .ok (.iconst 1, 1) := by decide +kernel
theorem dX12_counts_150 : decode cX12_counts 150 = .ok (.invokestatic 313, 3) := by decide +kernel
theorem dX12_counts_153 : decode cX12_counts 153 = .ok (.ifCond .eq 7, 3) := by decide +kernel
theorem dX12_counts_156 : decode cX12_counts 156 = .ok (.iconst 1, 1) := by decide +kernel
theorem dX12_counts_157 : decode cX12_counts 157 = .ok (.goto 4, 3) := by decide +kernel
theorem dX12_counts_160 : decode cX12_counts 160 = .ok (.iconst 0, 1) := by decide +kernel
theorem dX12_counts_161 : decode cX12_counts 161 = .ok (.iadd, 1) := by decide +kernel
theorem dX12_counts_162 : decode cX12_counts 162 = .ok (.istore_n 2, 1) := by decide +kernel
theorem dX12_counts_163 : decode cX12_counts 163 = .ok (.iinc 3 1, 3) := by decide +kernel
theorem dX12_counts_166 : decode cX12_counts 166 = .ok (.goto (-43), 3) := by decide +kernel
theorem dX12_counts_169 : decode cX12_counts 169 = .ok (.iload_n 1, 1) := by decide +kernel
theorem dX12_counts_170 : decode cX12_counts 170 = .ok (.iconst 3, 1) := by decide +kernel
theorem dX12_counts_171 : decode cX12_counts 171 = .ok (.if_icmp .ne 10, 3) := by decide +kernel
theorem dX12_counts_174 : decode cX12_counts 174 = .ok (.aload_n 0, 1) := by decide +kernel
theorem dX12_counts_175 : decode cX12_counts 175 = .ok (.getfield 215, 3) := by decide +kernel
theorem dX12_counts_178 : decode cX12_counts 178 = .ok (.goto 4, 3) := by decide +kernel
theorem dX12_counts_181 : decode cX12_counts 181 = .ok (.iload_n 2, 1) := by decide +kernel
theorem dX12_counts_182 : decode cX12_counts 182 = .ok (.ireturn, 1) := by decide +kernel
theorem dX12_count_0 : decode cX12_count 0 = .ok (.iload_n 1, 1) := by decide +kernel
theorem dX12_count_1 : decode cX12_count 1 = .ok (.iconst 0, 1) := by decide +kernel
theorem dX12_count_2 : decode cX12_count 2 = .ok (.bipush 6, 2) := by decide +kernel
theorem dX12_count_4 : decode cX12_count 4 = .ok (.invokestatic 130, 3) := by decide +kernel
theorem dX12_count_7 : decode cX12_count 7 = .ok (.ifCond .eq 11, 3) := by decide +kernel
theorem dX12_count_10 : decode cX12_count 10 = .ok (.aload_n 0, 1) := by decide +kernel
theorem dX12_count_11 : decode cX12_count 11 = .ok (.iload_n 1, 1) := by decide +kernel
theorem dX12_count_12 : decode cX12_count 12 = .ok (.invokevirtual 325, 3) := by decide +kernel
theorem dX12_count_15 : decode cX12_count 15 = .ok (.goto 4, 3) := by decide +kernel
theorem dX12_count_18 : decode cX12_count 18 = .ok (.iconst (-1), 1) := by decide +kernel
theorem dX12_count_19 : decode cX12_count 19 = .ok (.ireturn, 1) := by decide +kernel
theorem dX12_finding_0 : decode cX12_finding 0 = .ok (.aload_n 0, 1) := by decide +kernel
theorem dX12_finding_1 : decode cX12_finding 1 = .ok (.getfield 121, 3) := by decide +kernel
theorem dX12_finding_4 : decode cX12_finding 4 = .ok (.ireturn, 1) := by decide +kernel
theorem dX12_findings_0 : decode cX12_findings 0 = .ok (.iload_n 1, 1) := by decide +kernel
theorem dX12_findings_1 : decode cX12_findings 1 = .ok (.iconst 1, 1) := by decide +kernel
theorem dX12_findings_2 : decode cX12_findings 2 = .ok (.iconst 5, 1) := by decide +kernel
theorem dX12_findings_3 : decode cX12_findings 3 = .ok (.invokestatic 130, 3) := by decide +kernel
theorem dX12_findings_6 : decode cX12_findings 6 = .ok (.ifCond .eq 12, 3) := by decide +kernel
theorem dX12_findings_9 : decode cX12_findings 9 = .ok (.aload_n 0, 1) := by decide +kernel
theorem dX12_findings_10 : decode cX12_findings 10 = .ok (.getfield 7, 3) := by decide +kernel
theorem dX12_findings_13 : decode cX12_findings 13 = .ok (.iload_n 1, 1) := by decide +kernel
theorem dX12_findings_14 : decode cX12_findings 14 = .ok (.iaload, 1) := by decide +kernel
theorem dX12_findings_15 : decode cX12_findings 15 = .ok (.goto 4, 3) := by decide +kernel
theorem dX12_findings_18 : decode cX12_findings 18 = .ok (.iconst (-1), 1) := by decide +kernel
theorem dX12_findings_19 : decode cX12_findings 19 = .ok (.ireturn, 1) := by decide +kernel
theorem dX12_mix_0 : decode cX12_mix 0 = .ok (.aload_n 0, 1) := by decide +kernel
theorem dX12_mix_1 : decode cX12_mix 1 = .ok (.ldc2_w 328, 3) := by decide +kernel
theorem dX12_mix_4 : decode cX12_mix 4 = .ok (.aload_n 0, 1) := by decide +kernel
theorem dX12_mix_5 : decode cX12_mix 5 = .ok (.getfield 330, 3) := by decide +kernel
theorem dX12_mix_8 : decode cX12_mix 8 = .ok (.lmul, 1) := by decide +kernel
theorem dX12_mix_9 : decode cX12_mix 9 = .ok (.iload_n 1, 1) := by decide +kernel
theorem dX12_mix_10 : decode cX12_mix 10 = .ok (.i2l, 1) := by decide +kernel
theorem dX12_mix_11 : decode cX12_mix 11 = .ok (.ladd, 1) := by decide +kernel
theorem dX12_mix_12 : decode cX12_mix 12 = .ok (.putfield 330, 3) := by decide +kernel
theorem dX12_mix_15 : decode cX12_mix 15 = .ok (.return_, 1) := by decide +kernel
theorem dX12_mixNight_0 : decode cX12_mixNight 0 = .ok (.iconst 0, 1) := by decide +kernel
theorem dX12_mixNight_1 : decode cX12_mixNight 1 = .ok (.istore_n 1, 1) := by decide +kernel
theorem dX12_mixNight_2 : decode cX12_mixNight 2 = .ok (.iload_n 1, 1) := by decide +kernel
theorem dX12_mixNight_3 : decode cX12_mixNight 3 = .ok (.bipush 8, 2) := by decide +kernel
theorem dX12_mixNight_5 : decode cX12_mixNight 5 = .ok (.if_icmp .ge 48, 3) := by decide +kernel
theorem dX12_mixNight_8 : decode cX12_mixNight 8 = .ok (.aload_n 0, 1) := by decide +kernel
theorem dX12_mixNight_9 : decode cX12_mixNight 9 = .ok (.iload_n 1, 1) := by decide +kernel
theorem dX12_mixNight_10 : decode cX12_mixNight 10 = .ok (.invokevirtual 164, 3) := by decide +kernel
theorem dX12_mixNight_13 : decode cX12_mixNight 13 = .ok (.ifCond .ne 11, 3) := by decide +kernel
theorem dX12_mixNight_16 : decode cX12_mixNight 16 = .ok (.aload_n 0, 1) := by decide +kernel
theorem dX12_mixNight_17 : decode cX12_mixNight 17 = .ok (.iconst (-1), 1) := by decide +kernel
theorem dX12_mixNight_18 : decode cX12_mixNight 18 = .ok (.invokevirtual 333, 3) := by decide +kernel
theorem dX12_mixNight_21 : decode cX12_mixNight 21 = .ok (.goto 26, 3) := by decide +kernel
theorem dX12_mixNight_24 : decode cX12_mixNight 24 = .ok (.iconst 0, 1) := by decide +kernel
theorem dX12_mixNight_25 : decode cX12_mixNight 25 = .ok (.istore_n 2, 1) := by decide +kernel
theorem dX12_mixNight_26 : decode cX12_mixNight 26 = .ok (.iload_n 2, 1) := by decide +kernel
theorem dX12_mixNight_27 : decode cX12_mixNight 27 = .ok (.iconst 2, 1) := by decide +kernel
theorem dX12_mixNight_28 : decode cX12_mixNight 28 = .ok (.if_icmp .gt 19, 3) := by decide +kernel
theorem dX12_mixNight_31 : decode cX12_mixNight 31 = .ok (.aload_n 0, 1) := by decide +kernel
theorem dX12_mixNight_32 : decode cX12_mixNight 32 = .ok (.aload_n 0, 1) := by decide +kernel
theorem dX12_mixNight_33 : decode cX12_mixNight 33 = .ok (.iload_n 1, 1) := by decide +kernel
theorem dX12_mixNight_34 : decode cX12_mixNight 34 = .ok (.iload_n 2, 1) := by decide +kernel
theorem dX12_mixNight_35 : decode cX12_mixNight 35 = .ok (.invokevirtual 181, 3) := by decide +kernel
theorem dX12_mixNight_38 : decode cX12_mixNight 38 = .ok (.invokevirtual 333, 3) := by decide +kernel
theorem dX12_mixNight_41 : decode cX12_mixNight 41 = .ok (.iinc 2 1, 3) := by decide +kernel
theorem dX12_mixNight_44 : decode cX12_mixNight 44 = .ok (.goto (-18), 3) := by decide +kernel
theorem dX12_mixNight_47 : decode cX12_mixNight 47 = .ok (.iinc 1 1, 3) := by decide +kernel
theorem dX12_mixNight_50 : decode cX12_mixNight 50 = .ok (.goto (-48), 3) := by decide +kernel
theorem dX12_mixNight_53 : decode cX12_mixNight 53 = .ok (.aload_n 0, 1) := by decide +kernel
theorem dX12_mixNight_54 : decode cX12_mixNight 54 = .ok (.aload_n 0, 1) := by decide +kernel
theorem dX12_mixNight_55 : decode cX12_mixNight 55 = .ok (.getfield 41, 3) := by decide +kernel
theorem dX12_mixNight_58 : decode cX12_mixNight 58 = .ok (.invokevirtual 333, 3) := by decide +kernel
theorem dX12_mixNight_61 : decode cX12_mixNight 61 = .ok (.aload_n 0, 1) := by decide +kernel
theorem dX12_mixNight_62 : decode cX12_mixNight 62 = .ok (.aload_n 0, 1) := by decide +kernel
theorem dX12_mixNight_63 : decode cX12_mixNight 63 = .ok (.getfield 45, 3) := by decide +kernel
theorem dX12_mixNight_66 : decode cX12_mixNight 66 = .ok (.invokevirtual 333, 3) := by decide +kernel
theorem dX12_mixNight_69 : decode cX12_mixNight 69 = .ok (.iconst 0, 1) := by decide +kernel
theorem dX12_mixNight_70 : decode cX12_mixNight 70 = .ok (.istore_n 1, 1) := by decide +kernel
theorem dX12_mixNight_71 : decode cX12_mixNight 71 = .ok (.iload_n 1, 1) := by decide +kernel
theorem dX12_mixNight_72 : decode cX12_mixNight 72 = .ok (.aload_n 0, 1) := by decide +kernel
theorem dX12_mixNight_73 : decode cX12_mixNight 73 = .ok (.getfield 215, 3) := by decide +kernel
theorem dX12_mixNight_76 : decode cX12_mixNight 76 = .ok (.if_icmp .ge 62, 3) := by decide +kernel
theorem dX12_mixNight_79 : decode cX12_mixNight 79 = .ok (.iconst 0, 1) := by decide +kernel
theorem dX12_mixNight_80 : decode cX12_mixNight 80 = .ok (.istore_n 2, 1) := by decide +kernel
theorem dX12_mixNight_81 : decode cX12_mixNight 81 = .ok (.iload_n 2, 1) := by decide +kernel
theorem dX12_mixNight_82 : decode cX12_mixNight 82 = .ok (.iconst 4, 1) := by decide +kernel
theorem dX12_mixNight_83 : decode cX12_mixNight 83 = .ok (.if_icmp .gt 19, 3) := by decide +kernel
theorem dX12_mixNight_86 : decode cX12_mixNight 86 = .ok (.aload_n 0, 1) := by decide +kernel
theorem dX12_mixNight_87 : decode cX12_mixNight 87 = .ok (.aload_n 0, 1) := by decide +kernel
theorem dX12_mixNight_88 : decode cX12_mixNight 88 = .ok (.iload_n 1, 1) := by decide +kernel
theorem dX12_mixNight_89 : decode cX12_mixNight 89 = .ok (.iload_n 2, 1) := by decide +kernel
theorem dX12_mixNight_90 : decode cX12_mixNight 90 = .ok (.invokevirtual 221, 3) := by decide +kernel
theorem dX12_mixNight_93 : decode cX12_mixNight 93 = .ok (.invokevirtual 333, 3) := by decide +kernel
theorem dX12_mixNight_96 : decode cX12_mixNight 96 = .ok (.iinc 2 1, 3) := by decide +kernel
theorem dX12_mixNight_99 : decode cX12_mixNight 99 = .ok (.goto (-18), 3) := by decide +kernel
theorem dX12_mixNight_102 : decode cX12_mixNight 102 = .ok (.aload_n 0, 1) := by decide +kernel
theorem dX12_mixNight_103 : decode cX12_mixNight 103 = .ok (.aload_n 0, 1) := by decide +kernel
theorem dX12_mixNight_104 : decode cX12_mixNight 104 = .ok (.getfield 78, 3) := by decide +kernel
theorem dX12_mixNight_107 : decode cX12_mixNight 107 = .ok (.iload_n 1, 1) := by decide +kernel
theorem dX12_mixNight_108 : decode cX12_mixNight 108 = .ok (.iaload, 1) := by decide +kernel
theorem dX12_mixNight_109 : decode cX12_mixNight 109 = .ok (.invokevirtual 333, 3) := by decide +kernel
theorem dX12_mixNight_112 : decode cX12_mixNight 112 = .ok (.aload_n 0, 1) := by decide +kernel
theorem dX12_mixNight_113 : decode cX12_mixNight 113 = .ok (.aload_n 0, 1) := by decide +kernel
theorem dX12_mixNight_114 : decode cX12_mixNight 114 = .ok (.getfield 81, 3) := by decide +kernel
theorem dX12_mixNight_117 : decode cX12_mixNight 117 = .ok (.iload_n 1, 1) := by decide +kernel
theorem dX12_mixNight_118 : decode cX12_mixNight 118 = .ok (.iaload, 1) := by decide +kernel
theorem dX12_mixNight_119 : decode cX12_mixNight 119 = .ok (.invokevirtual 333, 3) := by decide +kernel
theorem dX12_mixNight_122 : decode cX12_mixNight 122 = .ok (.aload_n 0, 1) := by decide +kernel
theorem dX12_mixNight_123 : decode cX12_mixNight 123 = .ok (.aload_n 0, 1) := by decide +kernel
theorem dX12_mixNight_124 : decode cX12_mixNight 124 = .ok (.getfield 84, 3) := by decide +kernel
theorem dX12_mixNight_127 : decode cX12_mixNight 127 = .ok (.iload_n 1, 1) := by decide +kernel
theorem dX12_mixNight_128 : decode cX12_mixNight 128 = .ok (.iaload, 1) := by decide +kernel
theorem dX12_mixNight_129 : decode cX12_mixNight 129 = .ok (.invokevirtual 333, 3) := by decide +kernel
theorem dX12_mixNight_132 : decode cX12_mixNight 132 = .ok (.iinc 1 1, 3) := by decide +kernel
theorem dX12_mixNight_135 : decode cX12_mixNight 135 = .ok (.goto (-64), 3) := by decide +kernel
theorem dX12_mixNight_138 : decode cX12_mixNight 138 = .ok (.iconst 0, 1) := by decide +kernel
theorem dX12_mixNight_139 : decode cX12_mixNight 139 = .ok (.istore_n 1, 1) := by decide +kernel
theorem dX12_mixNight_140 : decode cX12_mixNight 140 = .ok (.iload_n 1, 1) := by decide +kernel
theorem dX12_mixNight_141 : decode cX12_mixNight 141 = .ok (.bipush 8, 2) := by decide +kernel
theorem dX12_mixNight_143 : decode cX12_mixNight 143 = .ok (.if_icmp .ge 64, 3) := by decide +kernel
theorem dX12_mixNight_146 : decode cX12_mixNight 146 = .ok (.aload_n 0, 1) := by decide +kernel
theorem dX12_mixNight_147 : decode cX12_mixNight 147 = .ok (.aload_n 0, 1) := by decide +kernel
theorem dX12_mixNight_148 : decode cX12_mixNight 148 = .ok (.getfield 105, 3) := by decide +kernel
theorem dX12_mixNight_151 : decode cX12_mixNight 151 = .ok (.iload_n 1, 1) := by decide +kernel
theorem dX12_mixNight_152 : decode cX12_mixNight 152 = .ok (.iaload, 1) := by decide +kernel
theorem dX12_mixNight_153 : decode cX12_mixNight 153 = .ok (.ifCond .ne 7, 3) := by decide +kernel
theorem dX12_mixNight_156 : decode cX12_mixNight 156 = .ok (.iconst (-1), 1) := by decide +kernel
theorem dX12_mixNight_157 : decode cX12_mixNight 157 = .ok (.goto 9, 3) := by decide +kernel
theorem dX12_mixNight_160 : decode cX12_mixNight 160 = .ok (.aload_n 0, 1) := by decide +kernel
theorem dX12_mixNight_161 : decode cX12_mixNight 161 = .ok (.getfield 105, 3) := by decide +kernel
theorem dX12_mixNight_164 : decode cX12_mixNight 164 = .ok (.iload_n 1, 1) := by decide +kernel
theorem dX12_mixNight_165 : decode cX12_mixNight 165 = .ok (.iaload, 1) := by decide +kernel
theorem dX12_mixNight_166 : decode cX12_mixNight 166 = .ok (.invokevirtual 333, 3) := by decide +kernel
theorem dX12_mixNight_169 : decode cX12_mixNight 169 = .ok (.iconst 0, 1) := by decide +kernel
theorem dX12_mixNight_170 : decode cX12_mixNight 170 = .ok (.istore_n 2, 1) := by decide +kernel
theorem dX12_mixNight_171 : decode cX12_mixNight 171 = .ok (.iload_n 2, 1) := by decide +kernel
theorem dX12_mixNight_172 : decode cX12_mixNight 172 = .ok (.aload_n 0, 1) := by decide +kernel
theorem dX12_mixNight_173 : decode cX12_mixNight 173 = .ok (.getfield 105, 3) := by decide +kernel
theorem dX12_mixNight_176 : decode cX12_mixNight 176 = .ok (.iload_n 1, 1) := by decide +kernel
theorem dX12_mixNight_177 : decode cX12_mixNight 177 = .ok (.iaload, 1) := by decide +kernel
theorem dX12_mixNight_178 : decode cX12_mixNight 178 = .ok (.if_icmp .ge 23, 3) := by decide +kernel
theorem dX12_mixNight_181 : decode cX12_mixNight 181 = .ok (.aload_n 0, 1) := by decide +kernel
theorem dX12_mixNight_182 : decode cX12_mixNight 182 = .ok (.aload_n 0, 1) := by decide +kernel
theorem dX12_mixNight_183 : decode cX12_mixNight 183 = .ok (.getfield 108, 3) := by decide +kernel
theorem dX12_mixNight_186 : decode cX12_mixNight 186 = .ok (.iload_n 1, 1) := by decide +kernel
theorem dX12_mixNight_187 : decode cX12_mixNight 187 = .ok (.iaload, 1) := by decide +kernel
theorem dX12_mixNight_188 : decode cX12_mixNight 188 = .ok (.iload_n 2, 1) := by decide +kernel
theorem dX12_mixNight_189 : decode cX12_mixNight 189 = .ok (.ishr, 1) := by decide +kernel
theorem dX12_mixNight_190 : decode cX12_mixNight 190 = .ok (.iconst 1, 1) := by decide +kernel
theorem dX12_mixNight_191 : decode cX12_mixNight 191 = .ok (.iand, 1) := by decide +kernel
theorem dX12_mixNight_192 : decode cX12_mixNight 192 = .ok (.invokevirtual 333, 3) := by decide +kernel
theorem dX12_mixNight_195 : decode cX12_mixNight 195 = .ok (.iinc 2 1, 3) := by decide +kernel
theorem dX12_mixNight_198 : decode cX12_mixNight 198 = .ok (.goto (-27), 3) := by decide +kernel
theorem dX12_mixNight_201 : decode cX12_mixNight 201 = .ok (.iinc 1 1, 3) := by decide +kernel
theorem dX12_mixNight_204 : decode cX12_mixNight 204 = .ok (.goto (-64), 3) := by decide +kernel
theorem dX12_mixNight_207 : decode cX12_mixNight 207 = .ok (.iconst 0, 1) := by decide +kernel
theorem dX12_mixNight_208 : decode cX12_mixNight 208 = .ok (.istore_n 1, 1) := by decide +kernel
theorem dX12_mixNight_209 : decode cX12_mixNight 209 = .ok (.iload_n 1, 1) := by decide +kernel
theorem dX12_mixNight_210 : decode cX12_mixNight 210 = .ok (.iconst 5, 1) := by decide +kernel
theorem dX12_mixNight_211 : decode cX12_mixNight 211 = .ok (.aload_n 0, 1) := by decide +kernel
theorem dX12_mixNight_212 : decode cX12_mixNight 212 = .ok (.getfield 304, 3) := by decide +kernel
theorem dX12_mixNight_215 : decode cX12_mixNight 215 = .ok (.imul, 1) := by decide +kernel
theorem dX12_mixNight_216 : decode cX12_mixNight 216 = .ok (.if_icmp .ge 19, 3) := by decide +kernel
theorem dX12_mixNight_219 : decode cX12_mixNight 219 = .ok (.aload_n 0, 1) := by decide +kernel
theorem dX12_mixNight_220 : decode cX12_mixNight 220 = .ok (.aload_n 0, 1) := by decide +kernel
theorem dX12_mixNight_221 : decode cX12_mixNight 221 = .ok (.getfield 118, 3) := by decide +kernel
theorem dX12_mixNight_224 : decode cX12_mixNight 224 = .ok (.iload_n 1, 1) := by decide +kernel
theorem dX12_mixNight_225 : decode cX12_mixNight 225 = .ok (.iaload, 1) := by decide +kernel
theorem dX12_mixNight_226 : decode cX12_mixNight 226 = .ok (.invokevirtual 333, 3) := by decide +kernel
theorem dX12_mixNight_229 : decode cX12_mixNight 229 = .ok (.iinc 1 1, 3) := by decide +kernel
theorem dX12_mixNight_232 : decode cX12_mixNight 232 = .ok (.goto (-23), 3) := by decide +kernel
theorem dX12_mixNight_235 : decode cX12_mixNight 235 = .ok (.return_, 1) := by decide +kernel
theorem dX12_digest_0 : decode cX12_digest 0 = .ok (.aload_n 0, 1) := by decide +kernel
theorem dX12_digest_1 : decode cX12_digest 1 = .ok (.ldc2_w 336, 3) := by decide +kernel
theorem dX12_digest_4 : decode cX12_digest 4 = .ok (.putfield 330, 3) := by decide +kernel
theorem dX12_digest_7 : decode cX12_digest 7 = .ok (.iconst 0, 1) := by decide +kernel
theorem dX12_digest_8 : decode cX12_digest 8 = .ok (.istore_n 1, 1) := by decide +kernel
theorem dX12_digest_9 : decode cX12_digest 9 = .ok (.iload_n 1, 1) := by decide +kernel
theorem dX12_digest_10 : decode cX12_digest 10 = .ok (.bipush 6, 2) := by decide +kernel
theorem dX12_digest_12 : decode cX12_digest 12 = .ok (.if_icmp .gt 18, 3) := by decide +kernel
theorem dX12_digest_15 : decode cX12_digest 15 = .ok (.aload_n 0, 1) := by decide +kernel
theorem dX12_digest_16 : decode cX12_digest 16 = .ok (.aload_n 0, 1) := by decide +kernel
theorem dX12_digest_17 : decode cX12_digest 17 = .ok (.iload_n 1, 1) := by decide +kernel
theorem dX12_digest_18 : decode cX12_digest 18 = .ok (.invokevirtual 325, 3) := by decide +kernel
theorem dX12_digest_21 : decode cX12_digest 21 = .ok (.invokevirtual 333, 3) := by decide +kernel
theorem dX12_digest_24 : decode cX12_digest 24 = .ok (.iinc 1 1, 3) := by decide +kernel
theorem dX12_digest_27 : decode cX12_digest 27 = .ok (.goto (-18), 3) := by decide +kernel
theorem dX12_digest_30 : decode cX12_digest 30 = .ok (.aload_n 0, 1) := by decide +kernel
theorem dX12_digest_31 : decode cX12_digest 31 = .ok (.invokevirtual 338, 3) := by decide +kernel
theorem dX12_digest_34 : decode cX12_digest 34 = .ok (.iconst 0, 1) := by decide +kernel
theorem dX12_digest_35 : decode cX12_digest 35 = .ok (.istore_n 1, 1) := by decide +kernel
theorem dX12_digest_36 : decode cX12_digest 36 = .ok (.iload_n 1, 1) := by decide +kernel
theorem dX12_digest_37 : decode cX12_digest 37 = .ok (.bipush 6, 2) := by decide +kernel
theorem dX12_digest_39 : decode cX12_digest 39 = .ok (.if_icmp .ge 60, 3) := by decide +kernel
theorem dX12_digest_42 : decode cX12_digest 42 = .ok (.aload_n 0, 1) := by decide +kernel
theorem dX12_digest_43 : decode cX12_digest 43 = .ok (.aload_n 0, 1) := by decide +kernel
theorem dX12_digest_44 : decode cX12_digest 44 = .ok (.getfield 17, 3) := by decide +kernel
theorem dX12_digest_47 : decode cX12_digest 47 = .ok (.iload_n 1, 1) := by decide +kernel
theorem dX12_digest_48 : decode cX12_digest 48 = .ok (.iaload, 1) := by decide +kernel
theorem dX12_digest_49 : decode cX12_digest 49 = .ok (.ifCond .ge 7, 3) := by decide +kernel
theorem dX12_digest_52 : decode cX12_digest 52 = .ok (.iconst (-1), 1) := by decide +kernel
theorem dX12_digest_53 : decode cX12_digest 53 = .ok (.goto 9, 3) := by decide +kernel
theorem dX12_digest_56 : decode cX12_digest 56 = .ok (.aload_n 0, 1) := by decide +kernel
theorem dX12_digest_57 : decode cX12_digest 57 = .ok (.getfield 17, 3) := by decide +kernel
theorem dX12_digest_60 : decode cX12_digest 60 = .ok (.iload_n 1, 1) := by decide +kernel
theorem dX12_digest_61 : decode cX12_digest 61 = .ok (.iaload, 1) := by decide +kernel
theorem dX12_digest_62 : decode cX12_digest 62 = .ok (.invokevirtual 333, 3) := by decide +kernel
theorem dX12_digest_65 : decode cX12_digest 65 = .ok (.iconst 0, 1) := by decide +kernel
theorem dX12_digest_66 : decode cX12_digest 66 = .ok (.istore_n 2, 1) := by decide +kernel
theorem dX12_digest_67 : decode cX12_digest 67 = .ok (.iload_n 2, 1) := by decide +kernel
theorem dX12_digest_68 : decode cX12_digest 68 = .ok (.aload_n 0, 1) := by decide +kernel
theorem dX12_digest_69 : decode cX12_digest 69 = .ok (.getfield 17, 3) := by decide +kernel
theorem dX12_digest_72 : decode cX12_digest 72 = .ok (.iload_n 1, 1) := by decide +kernel
theorem dX12_digest_73 : decode cX12_digest 73 = .ok (.iaload, 1) := by decide +kernel
theorem dX12_digest_74 : decode cX12_digest 74 = .ok (.if_icmp .ge 19, 3) := by decide +kernel
theorem dX12_digest_77 : decode cX12_digest 77 = .ok (.aload_n 0, 1) := by decide +kernel
theorem dX12_digest_78 : decode cX12_digest 78 = .ok (.aload_n 0, 1) := by decide +kernel
theorem dX12_digest_79 : decode cX12_digest 79 = .ok (.iload_n 1, 1) := by decide +kernel
theorem dX12_digest_80 : decode cX12_digest 80 = .ok (.iload_n 2, 1) := by decide +kernel
theorem dX12_digest_81 : decode cX12_digest 81 = .ok (.invokevirtual 148, 3) := by decide +kernel
theorem dX12_digest_84 : decode cX12_digest 84 = .ok (.invokevirtual 333, 3) := by decide +kernel
theorem dX12_digest_87 : decode cX12_digest 87 = .ok (.iinc 2 1, 3) := by decide +kernel
theorem dX12_digest_90 : decode cX12_digest 90 = .ok (.goto (-23), 3) := by decide +kernel
theorem dX12_digest_93 : decode cX12_digest 93 = .ok (.iinc 1 1, 3) := by decide +kernel
theorem dX12_digest_96 : decode cX12_digest 96 = .ok (.goto (-60), 3) := by decide +kernel
theorem dX12_digest_99 : decode cX12_digest 99 = .ok (.iconst 0, 1) := by decide +kernel
theorem dX12_digest_100 : decode cX12_digest 100 = .ok (.istore_n 1, 1) := by decide +kernel
theorem dX12_digest_101 : decode cX12_digest 101 = .ok (.iload_n 1, 1) := by decide +kernel
theorem dX12_digest_102 : decode cX12_digest 102 = .ok (.iconst 4, 1) := by decide +kernel
theorem dX12_digest_103 : decode cX12_digest 103 = .ok (.if_icmp .ge 65, 3) := by decide +kernel
theorem dX12_digest_106 : decode cX12_digest 106 = .ok (.aload_n 0, 1) := by decide +kernel
theorem dX12_digest_107 : decode cX12_digest 107 = .ok (.aload_n 0, 1) := by decide +kernel
theorem dX12_digest_108 : decode cX12_digest 108 = .ok (.getfield 26, 3) := by decide +kernel
theorem dX12_digest_111 : decode cX12_digest 111 = .ok (.iload_n 1, 1) := by decide +kernel
theorem dX12_digest_112 : decode cX12_digest 112 = .ok (.iaload, 1) := by decide +kernel
theorem dX12_digest_113 : decode cX12_digest 113 = .ok (.ifCond .ge 7, 3) := by decide +kernel
theorem dX12_digest_116 : decode cX12_digest 116 = .ok (.iconst (-1), 1) := by decide +kernel
theorem dX12_digest_117 : decode cX12_digest 117 = .ok (.goto 9, 3) := by decide +kernel
theorem dX12_digest_120 : decode cX12_digest 120 = .ok (.aload_n 0, 1) := by decide +kernel
theorem dX12_digest_121 : decode cX12_digest 121 = .ok (.getfield 26, 3) := by decide +kernel
theorem dX12_digest_124 : decode cX12_digest 124 = .ok (.iload_n 1, 1) := by decide +kernel
theorem dX12_digest_125 : decode cX12_digest 125 = .ok (.iaload, 1) := by decide +kernel
theorem dX12_digest_126 : decode cX12_digest 126 = .ok (.invokevirtual 333, 3) := by decide +kernel
theorem dX12_digest_129 : decode cX12_digest 129 = .ok (.iconst 0, 1) := by decide +kernel
theorem dX12_digest_130 : decode cX12_digest 130 = .ok (.istore_n 2, 1) := by decide +kernel
theorem dX12_digest_131 : decode cX12_digest 131 = .ok (.iload_n 2, 1) := by decide +kernel
theorem dX12_digest_132 : decode cX12_digest 132 = .ok (.aload_n 0, 1) := by decide +kernel
theorem dX12_digest_133 : decode cX12_digest 133 = .ok (.getfield 26, 3) := by decide +kernel
theorem dX12_digest_136 : decode cX12_digest 136 = .ok (.iload_n 1, 1) := by decide +kernel
theorem dX12_digest_137 : decode cX12_digest 137 = .ok (.iaload, 1) := by decide +kernel
theorem dX12_digest_138 : decode cX12_digest 138 = .ok (.if_icmp .ge 24, 3) := by decide +kernel
theorem dX12_digest_141 : decode cX12_digest 141 = .ok (.aload_n 0, 1) := by decide +kernel
theorem dX12_digest_142 : decode cX12_digest 142 = .ok (.aload_n 0, 1) := by decide +kernel
theorem dX12_digest_143 : decode cX12_digest 143 = .ok (.getfield 29, 3) := by decide +kernel
theorem dX12_digest_146 : decode cX12_digest 146 = .ok (.bipush 60, 2) := by decide +kernel
theorem dX12_digest_148 : decode cX12_digest 148 = .ok (.iload_n 1, 1) := by decide +kernel
theorem dX12_digest_149 : decode cX12_digest 149 = .ok (.imul, 1) := by decide +kernel
theorem dX12_digest_150 : decode cX12_digest 150 = .ok (.iload_n 2, 1) := by decide +kernel
theorem dX12_digest_151 : decode cX12_digest 151 = .ok (.iadd, 1) := by decide +kernel
theorem dX12_digest_152 : decode cX12_digest 152 = .ok (.iaload, 1) := by decide +kernel
theorem dX12_digest_153 : decode cX12_digest 153 = .ok (.invokevirtual 333, 3) := by decide +kernel
theorem dX12_digest_156 : decode cX12_digest 156 = .ok (.iinc 2 1, 3) := by decide +kernel
theorem dX12_digest_159 : decode cX12_digest 159 = .ok (.goto (-28), 3) := by decide +kernel
theorem dX12_digest_162 : decode cX12_digest 162 = .ok (.iinc 1 1, 3) := by decide +kernel
theorem dX12_digest_165 : decode cX12_digest 165 = .ok (.goto (-64), 3) := by decide +kernel
theorem dX12_digest_168 : decode cX12_digest 168 = .ok (.aload_n 0, 1) := by decide +kernel
theorem dX12_digest_169 : decode cX12_digest 169 = .ok (.getfield 330, 3) := by decide +kernel
theorem dX12_digest_172 : decode cX12_digest 172 = .ok (.lreturn, 1) := by decide +kernel
theorem dJ6_bitCount_0f7a4_0 : decode cJ6_bitCount_0f7a4 0 = .ok (.iload_n 0, 1) := by decide +kernel
theorem dJ6_bitCount_0f7a4_1 : decode cJ6_bitCount_0f7a4 1 = .ok (.iload_n 0, 1) := by decide +kernel
theorem dJ6_bitCount_0f7a4_2 : decode cJ6_bitCount_0f7a4 2 = .ok (.iconst 1, 1) := by decide +kernel
theorem dJ6_bitCount_0f7a4_3 : decode cJ6_bitCount_0f7a4 3 = .ok (.iushr, 1) := by decide +kernel
theorem dJ6_bitCount_0f7a4_4 : decode cJ6_bitCount_0f7a4 4 = .ok (.ldc_w 265, 3) := by decide +kernel
theorem dJ6_bitCount_0f7a4_7 : decode cJ6_bitCount_0f7a4 7 = .ok (.iand, 1) := by decide +kernel
theorem dJ6_bitCount_0f7a4_8 : decode cJ6_bitCount_0f7a4 8 = .ok (.isub, 1) := by decide +kernel
theorem dJ6_bitCount_0f7a4_9 : decode cJ6_bitCount_0f7a4 9 = .ok (.istore_n 0, 1) := by decide +kernel
theorem dJ6_bitCount_0f7a4_10 : decode cJ6_bitCount_0f7a4 10 = .ok (.iload_n 0, 1) := by decide +kernel
theorem dJ6_bitCount_0f7a4_11 : decode cJ6_bitCount_0f7a4 11 = .ok (.ldc_w 266, 3) := by decide +kernel
theorem dJ6_bitCount_0f7a4_14 : decode cJ6_bitCount_0f7a4 14 = .ok (.iand, 1) := by decide +kernel
theorem dJ6_bitCount_0f7a4_15 : decode cJ6_bitCount_0f7a4 15 = .ok (.iload_n 0, 1) := by decide +kernel
theorem dJ6_bitCount_0f7a4_16 : decode cJ6_bitCount_0f7a4 16 = .ok (.iconst 2, 1) := by decide +kernel
theorem dJ6_bitCount_0f7a4_17 : decode cJ6_bitCount_0f7a4 17 = .ok (.iushr, 1) := by decide +kernel
theorem dJ6_bitCount_0f7a4_18 : decode cJ6_bitCount_0f7a4 18 = .ok (.ldc_w 266, 3) := by decide +kernel
theorem dJ6_bitCount_0f7a4_21 : decode cJ6_bitCount_0f7a4 21 = .ok (.iand, 1) := by decide +kernel
theorem dJ6_bitCount_0f7a4_22 : decode cJ6_bitCount_0f7a4 22 = .ok (.iadd, 1) := by decide +kernel
theorem dJ6_bitCount_0f7a4_23 : decode cJ6_bitCount_0f7a4 23 = .ok (.istore_n 0, 1) := by decide +kernel
theorem dJ6_bitCount_0f7a4_24 : decode cJ6_bitCount_0f7a4 24 = .ok (.iload_n 0, 1) := by decide +kernel
theorem dJ6_bitCount_0f7a4_25 : decode cJ6_bitCount_0f7a4 25 = .ok (.iload_n 0, 1) := by decide +kernel
theorem dJ6_bitCount_0f7a4_26 : decode cJ6_bitCount_0f7a4 26 = .ok (.iconst 4, 1) := by decide +kernel
theorem dJ6_bitCount_0f7a4_27 : decode cJ6_bitCount_0f7a4 27 = .ok (.iushr, 1) := by decide +kernel
theorem dJ6_bitCount_0f7a4_28 : decode cJ6_bitCount_0f7a4 28 = .ok (.iadd, 1) := by decide +kernel
theorem dJ6_bitCount_0f7a4_29 : decode cJ6_bitCount_0f7a4 29 = .ok (.ldc_w 267, 3) := by decide +kernel
theorem dJ6_bitCount_0f7a4_32 : decode cJ6_bitCount_0f7a4 32 = .ok (.iand, 1) := by decide +kernel
theorem dJ6_bitCount_0f7a4_33 : decode cJ6_bitCount_0f7a4 33 = .ok (.istore_n 0, 1) := by decide +kernel
theorem dJ6_bitCount_0f7a4_34 : decode cJ6_bitCount_0f7a4 34 = .ok (.iload_n 0, 1) := by decide +kernel
theorem dJ6_bitCount_0f7a4_35 : decode cJ6_bitCount_0f7a4 35 = .ok (.iload_n 0, 1) := by decide +kernel
theorem dJ6_bitCount_0f7a4_36 : decode cJ6_bitCount_0f7a4 36 = .ok (.bipush 8, 2) := by decide +kernel
theorem dJ6_bitCount_0f7a4_38 : decode cJ6_bitCount_0f7a4 38 = .ok (.iushr, 1) := by decide +kernel
theorem dJ6_bitCount_0f7a4_39 : decode cJ6_bitCount_0f7a4 39 = .ok (.iadd, 1) := by decide +kernel
theorem dJ6_bitCount_0f7a4_40 : decode cJ6_bitCount_0f7a4 40 = .ok (.istore_n 0, 1) := by decide +kernel
theorem dJ6_bitCount_0f7a4_41 : decode cJ6_bitCount_0f7a4 41 = .ok (.iload_n 0, 1) := by decide +kernel
theorem dJ6_bitCount_0f7a4_42 : decode cJ6_bitCount_0f7a4 42 = .ok (.iload_n 0, 1) := by decide +kernel
theorem dJ6_bitCount_0f7a4_43 : decode cJ6_bitCount_0f7a4 43 = .ok (.bipush 16, 2) := by decide +kernel
theorem dJ6_bitCount_0f7a4_45 : decode cJ6_bitCount_0f7a4 45 = .ok (.iushr, 1) := by decide +kernel
theorem dJ6_bitCount_0f7a4_46 : decode cJ6_bitCount_0f7a4 46 = .ok (.iadd, 1) := by decide +kernel
theorem dJ6_bitCount_0f7a4_47 : decode cJ6_bitCount_0f7a4 47 = .ok (.istore_n 0, 1) := by decide +kernel
theorem dJ6_bitCount_0f7a4_48 : decode cJ6_bitCount_0f7a4 48 = .ok (.iload_n 0, 1) := by decide +kernel
theorem dJ6_bitCount_0f7a4_49 : decode cJ6_bitCount_0f7a4 49 = .ok (.bipush 63, 2) := by decide +kernel
theorem dJ6_bitCount_0f7a4_51 : decode cJ6_bitCount_0f7a4 51 = .ok (.iand, 1) := by decide +kernel
theorem dJ6_bitCount_0f7a4_52 : decode cJ6_bitCount_0f7a4 52 = .ok (.ireturn, 1) := by decide +kernel
theorem dJ9_abs_0f7a4_0 : decode cJ9_abs_0f7a4 0 = .ok (.iload_n 0, 1) := by decide +kernel
theorem dJ9_abs_0f7a4_1 : decode cJ9_abs_0f7a4 1 = .ok (.ifCond .ge 8, 3) := by decide +kernel
theorem dJ9_abs_0f7a4_4 : decode cJ9_abs_0f7a4 4 = .ok (.iload_n 0, 1) := by decide +kernel
theorem dJ9_abs_0f7a4_5 : decode cJ9_abs_0f7a4 5 = .ok (.ineg, 1) := by decide +kernel
theorem dJ9_abs_0f7a4_6 : decode cJ9_abs_0f7a4 6 = .ok (.goto 4, 3) := by decide +kernel
theorem dJ9_abs_0f7a4_9 : decode cJ9_abs_0f7a4 9 = .ok (.iload_n 0, 1) := by decide +kernel
theorem dJ9_abs_0f7a4_10 : decode cJ9_abs_0f7a4 10 = .ok (.ireturn, 1) := by decide +kernel
theorem dJ9_abs_067f4_0 : decode cJ9_abs_067f4 0 = .ok (.lload_n 0, 1) := by decide +kernel
theorem dJ9_abs_067f4_1 : decode cJ9_abs_067f4 1 = .ok (.lconst 0, 1) := by decide +kernel
theorem dJ9_abs_067f4_2 : decode cJ9_abs_067f4 2 = .ok (.lcmp, 1) := by decide +kernel
theorem dJ9_abs_067f4_3 : decode cJ9_abs_067f4 3 = .ok (.ifCond .ge 8, 3) := by decide +kernel
theorem dJ9_abs_067f4_6 : decode cJ9_abs_067f4 6 = .ok (.lload_n 0, 1) := by decide +kernel
theorem dJ9_abs_067f4_7 : decode cJ9_abs_067f4 7 = .ok (.lneg, 1) := by decide +kernel
theorem dJ9_abs_067f4_8 : decode cJ9_abs_067f4 8 = .ok (.goto 4, 3) := by decide +kernel
theorem dJ9_abs_067f4_11 : decode cJ9_abs_067f4 11 = .ok (.lload_n 0, 1) := by decide +kernel
theorem dJ9_abs_067f4_12 : decode cJ9_abs_067f4 12 = .ok (.lreturn, 1) := by decide +kernel
theorem dJ9_max_7cf53_0 : decode cJ9_max_7cf53 0 = .ok (.iload_n 0, 1) := by decide +kernel
theorem dJ9_max_7cf53_1 : decode cJ9_max_7cf53 1 = .ok (.iload_n 1, 1) := by decide +kernel
theorem dJ9_max_7cf53_2 : decode cJ9_max_7cf53 2 = .ok (.if_icmp .lt 7, 3) := by decide +kernel
theorem dJ9_max_7cf53_5 : decode cJ9_max_7cf53 5 = .ok (.iload_n 0, 1) := by decide +kernel
theorem dJ9_max_7cf53_6 : decode cJ9_max_7cf53 6 = .ok (.goto 4, 3) := by decide +kernel
theorem dJ9_max_7cf53_9 : decode cJ9_max_7cf53 9 = .ok (.iload_n 1, 1) := by decide +kernel
theorem dJ9_max_7cf53_10 : decode cJ9_max_7cf53 10 = .ok (.ireturn, 1) := by decide +kernel
theorem dJ9_min_7cf53_0 : decode cJ9_min_7cf53 0 = .ok (.iload_n 0, 1) := by decide +kernel
theorem dJ9_min_7cf53_1 : decode cJ9_min_7cf53 1 = .ok (.iload_n 1, 1) := by decide +kernel
theorem dJ9_min_7cf53_2 : decode cJ9_min_7cf53 2 = .ok (.if_icmp .gt 7, 3) := by decide +kernel
theorem dJ9_min_7cf53_5 : decode cJ9_min_7cf53 5 = .ok (.iload_n 0, 1) := by decide +kernel
theorem dJ9_min_7cf53_6 : decode cJ9_min_7cf53 6 = .ok (.goto 4, 3) := by decide +kernel
theorem dJ9_min_7cf53_9 : decode cJ9_min_7cf53 9 = .ok (.iload_n 1, 1) := by decide +kernel
theorem dJ9_min_7cf53_10 : decode cJ9_min_7cf53 10 = .ok (.ireturn, 1) := by decide +kernel
theorem dJ7_rangeCheck_23922_0 : decode cJ7_rangeCheck_23922 0 = .ok (.iload_n 1, 1) := by decide +kernel
theorem dJ7_rangeCheck_23922_1 : decode cJ7_rangeCheck_23922 1 = .ok (.iload_n 2, 1) := by decide +kernel
theorem dJ7_rangeCheck_23922_2 : decode cJ7_rangeCheck_23922 2 = .ok (.if_icmp .le 44, 3) := by decide +kernel
theorem dJ7_rangeCheck_23922_5 : decode cJ7_rangeCheck_23922 5 = .ok (.new 43, 3) := by decide +kernel
theorem dJ7_rangeCheck_23922_8 : decode cJ7_rangeCheck_23922 8 = .ok (.dup, 1) := by decide +kernel
theorem dJ7_rangeCheck_23922_9 : decode cJ7_rangeCheck_23922 9 = .ok (.new 45, 3) := by decide +kernel
theorem dJ7_rangeCheck_23922_12 : decode cJ7_rangeCheck_23922 12 = .ok (.dup, 1) := by decide +kernel
theorem dJ7_rangeCheck_23922_13 : decode cJ7_rangeCheck_23922 13 = .ok (.invokespecial 47, 3) := by decide +kernel
theorem dJ7_rangeCheck_23922_16 : decode cJ7_rangeCheck_23922 16 = .ok (.ldc 48, 2) := by decide +kernel
theorem dJ7_rangeCheck_23922_18 : decode cJ7_rangeCheck_23922 18 = .ok (.invokevirtual 50, 3) := by decide +kernel
theorem dJ7_rangeCheck_23922_21 : decode cJ7_rangeCheck_23922 21 = .ok (.iload_n 1, 1) := by decide +kernel
theorem dJ7_rangeCheck_23922_22 : decode cJ7_rangeCheck_23922 22 = .ok (.invokevirtual 54, 3) := by decide +kernel
theorem dJ7_rangeCheck_23922_25 : decode cJ7_rangeCheck_23922 25 = .ok (.ldc 57, 2) := by decide +kernel
theorem dJ7_rangeCheck_23922_27 : decode cJ7_rangeCheck_23922 27 = .ok (.invokevirtual 50, 3) := by decide +kernel
theorem dJ7_rangeCheck_23922_30 : decode cJ7_rangeCheck_23922 30 = .ok (.iload_n 2, 1) := by decide +kernel
theorem dJ7_rangeCheck_23922_31 : decode cJ7_rangeCheck_23922 31 = .ok (.invokevirtual 54, 3) := by decide +kernel
theorem dJ7_rangeCheck_23922_34 : decode cJ7_rangeCheck_23922 34 = .ok (.ldc 59, 2) := by decide +kernel
theorem dJ7_rangeCheck_23922_36 : decode cJ7_rangeCheck_23922 36 = .ok (.invokevirtual 50, 3) := by decide +kernel
theorem dJ7_rangeCheck_23922_39 : decode cJ7_rangeCheck_23922 39 = .ok (.invokevirtual 61, 3) := by decide +kernel
theorem dJ7_rangeCheck_23922_42 : decode cJ7_rangeCheck_23922 42 = .ok (.invokespecial 65, 3) := by decide +kernel
theorem dJ7_rangeCheck_23922_45 : decode cJ7_rangeCheck_23922 45 = .ok (.athrow, 1) := by decide +kernel
theorem dJ7_rangeCheck_23922_46 : decode cJ7_rangeCheck_23922 46 = .ok (.iload_n 1, 1) := by decide +kernel
theorem dJ7_rangeCheck_23922_47 : decode cJ7_rangeCheck_23922 47 = .ok (.ifCond .ge 12, 3) := by decide +kernel
theorem dJ7_rangeCheck_23922_50 : decode cJ7_rangeCheck_23922 50 = .ok (.new 68, 3) := by decide +kernel
theorem dJ7_rangeCheck_23922_53 : decode cJ7_rangeCheck_23922 53 = .ok (.dup, 1) := by decide +kernel
theorem dJ7_rangeCheck_23922_54 : decode cJ7_rangeCheck_23922 54 = .ok (.iload_n 1, 1) := by decide +kernel
theorem dJ7_rangeCheck_23922_55 : decode cJ7_rangeCheck_23922 55 = .ok (.invokespecial 70, 3) := by decide +kernel
theorem dJ7_rangeCheck_23922_58 : decode cJ7_rangeCheck_23922 58 = .ok (.athrow, 1) := by decide +kernel
theorem dJ7_rangeCheck_23922_59 : decode cJ7_rangeCheck_23922 59 = .ok (.iload_n 2, 1) := by decide +kernel
theorem dJ7_rangeCheck_23922_60 : decode cJ7_rangeCheck_23922 60 = .ok (.iload_n 0, 1) := by decide +kernel
theorem dJ7_rangeCheck_23922_61 : decode cJ7_rangeCheck_23922 61 = .ok (.if_icmp .le 12, 3) := by decide +kernel
theorem dJ7_rangeCheck_23922_64 : decode cJ7_rangeCheck_23922 64 = .ok (.new 68, 3) := by decide +kernel
theorem dJ7_rangeCheck_23922_67 : decode cJ7_rangeCheck_23922 67 = .ok (.dup, 1) := by decide +kernel
theorem dJ7_rangeCheck_23922_68 : decode cJ7_rangeCheck_23922 68 = .ok (.iload_n 2, 1) := by decide +kernel
theorem dJ7_rangeCheck_23922_69 : decode cJ7_rangeCheck_23922 69 = .ok (.invokespecial 70, 3) := by decide +kernel
theorem dJ7_rangeCheck_23922_72 : decode cJ7_rangeCheck_23922 72 = .ok (.athrow, 1) := by decide +kernel
theorem dJ7_rangeCheck_23922_73 : decode cJ7_rangeCheck_23922 73 = .ok (.return_, 1) := by decide +kernel
theorem dJ7_fill_53178_0 : decode cJ7_fill_53178 0 = .ok (.iconst 0, 1) := by decide +kernel
theorem dJ7_fill_53178_1 : decode cJ7_fill_53178 1 = .ok (.istore_n 2, 1) := by decide +kernel
theorem dJ7_fill_53178_2 : decode cJ7_fill_53178 2 = .ok (.aload_n 0, 1) := by decide +kernel
theorem dJ7_fill_53178_3 : decode cJ7_fill_53178 3 = .ok (.arraylength, 1) := by decide +kernel
theorem dJ7_fill_53178_4 : decode cJ7_fill_53178 4 = .ok (.istore_n 3, 1) := by decide +kernel
theorem dJ7_fill_53178_5 : decode cJ7_fill_53178 5 = .ok (.iload_n 2, 1) := by decide +kernel
theorem dJ7_fill_53178_6 : decode cJ7_fill_53178 6 = .ok (.iload_n 3, 1) := by decide +kernel
theorem dJ7_fill_53178_7 : decode cJ7_fill_53178 7 = .ok (.if_icmp .ge 13, 3) := by decide +kernel
theorem dJ7_fill_53178_10 : decode cJ7_fill_53178 10 = .ok (.aload_n 0, 1) := by decide +kernel
theorem dJ7_fill_53178_11 : decode cJ7_fill_53178 11 = .ok (.iload_n 2, 1) := by decide +kernel
theorem dJ7_fill_53178_12 : decode cJ7_fill_53178 12 = .ok (.iload_n 1, 1) := by decide +kernel
theorem dJ7_fill_53178_13 : decode cJ7_fill_53178 13 = .ok (.iastore, 1) := by decide +kernel
theorem dJ7_fill_53178_14 : decode cJ7_fill_53178 14 = .ok (.iinc 2 1, 3) := by decide +kernel
theorem dJ7_fill_53178_17 : decode cJ7_fill_53178 17 = .ok (.goto (-12), 3) := by decide +kernel
theorem dJ7_fill_53178_20 : decode cJ7_fill_53178 20 = .ok (.return_, 1) := by decide +kernel
theorem dJ7_fill_fda19_0 : decode cJ7_fill_fda19 0 = .ok (.aload_n 0, 1) := by decide +kernel
theorem dJ7_fill_fda19_1 : decode cJ7_fill_fda19 1 = .ok (.arraylength, 1) := by decide +kernel
theorem dJ7_fill_fda19_2 : decode cJ7_fill_fda19 2 = .ok (.iload_n 1, 1) := by decide +kernel
theorem dJ7_fill_fda19_3 : decode cJ7_fill_fda19 3 = .ok (.iload_n 2, 1) := by decide +kernel
theorem dJ7_fill_fda19_4 : decode cJ7_fill_fda19 4 = .ok (.invokestatic 13, 3) := by decide +kernel
theorem dJ7_fill_fda19_7 : decode cJ7_fill_fda19 7 = .ok (.iload_n 1, 1) := by decide +kernel
theorem dJ7_fill_fda19_8 : decode cJ7_fill_fda19 8 = .ok (.istore 4, 2) := by decide +kernel
theorem dJ7_fill_fda19_10 : decode cJ7_fill_fda19 10 = .ok (.iload 4, 2) := by decide +kernel
theorem dJ7_fill_fda19_12 : decode cJ7_fill_fda19 12 = .ok (.iload_n 2, 1) := by decide +kernel
theorem dJ7_fill_fda19_13 : decode cJ7_fill_fda19 13 = .ok (.if_icmp .ge 14, 3) := by decide +kernel
theorem dJ7_fill_fda19_16 : decode cJ7_fill_fda19 16 = .ok (.aload_n 0, 1) := by decide +kernel
theorem dJ7_fill_fda19_17 : decode cJ7_fill_fda19 17 = .ok (.iload 4, 2) := by decide +kernel
theorem dJ7_fill_fda19_19 : decode cJ7_fill_fda19 19 = .ok (.iload_n 3, 1) := by decide +kernel
theorem dJ7_fill_fda19_20 : decode cJ7_fill_fda19 20 = .ok (.iastore, 1) := by decide +kernel
theorem dJ7_fill_fda19_21 : decode cJ7_fill_fda19 21 = .ok (.iinc 4 1, 3) := by decide +kernel
theorem dJ7_fill_fda19_24 : decode cJ7_fill_fda19 24 = .ok (.goto (-14), 3) := by decide +kernel
theorem dJ7_fill_fda19_27 : decode cJ7_fill_fda19 27 = .ok (.return_, 1) := by decide +kernel
theorem dL_law_0 : decode cL_law 0 = .ok (.new 7, 3) := by decide +kernel
theorem dL_law_3 : decode cL_law 3 = .ok (.dup, 1) := by decide +kernel
theorem dL_law_4 : decode cL_law 4 = .ok (.invokespecial 9, 3) := by decide +kernel
theorem dL_law_7 : decode cL_law 7 = .ok (.astore_n 1, 1) := by decide +kernel
theorem dL_law_8 : decode cL_law 8 = .ok (.new 10, 3) := by decide +kernel
theorem dL_law_11 : decode cL_law 11 = .ok (.dup, 1) := by decide +kernel
theorem dL_law_12 : decode cL_law 12 = .ok (.invokespecial 12, 3) := by decide +kernel
theorem dL_law_15 : decode cL_law 15 = .ok (.astore_n 2, 1) := by decide +kernel
theorem dL_law_16 : decode cL_law 16 = .ok (.iconst 0, 1) := by decide +kernel
theorem dL_law_17 : decode cL_law 17 = .ok (.istore_n 3, 1) := by decide +kernel
theorem dL_law_18 : decode cL_law 18 = .ok (.iload_n 3, 1) := by decide +kernel
theorem dL_law_19 : decode cL_law 19 = .ok (.aload_n 0, 1) := by decide +kernel
theorem dL_law_20 : decode cL_law 20 = .ok (.arraylength, 1) := by decide +kernel
theorem dL_law_21 : decode cL_law 21 = .ok (.bipush 7, 2) := by decide +kernel
theorem dL_law_23 : decode cL_law 23 = .ok (.isub, 1) := by decide +kernel
theorem dL_law_24 : decode cL_law 24 = .ok (.if_icmp .gt 1691, 3) := by decide +kernel
theorem dL_law_27 : decode cL_law 27 = .ok (.aload_n 0, 1) := by decide +kernel
theorem dL_law_28 : decode cL_law 28 = .ok (.iload_n 3, 1) := by decide +kernel
theorem dL_law_29 : decode cL_law 29 = .ok (.iaload, 1) := by decide +kernel
theorem dL_law_30 : decode cL_law 30 = .ok (.bipush 63, 2) := by decide +kernel
theorem dL_law_32 : decode cL_law 32 = .ok (.iand, 1) := by decide +kernel
theorem dL_law_33 : decode cL_law 33 = .ok (.tableswitch 1676 0 49 #[215, 248, 291, 324, 347, 410, 433, 466, 509, 562, 585, 618, 651, 704, 779, 812, 835, 858, 891, 904, 917, 930, 953, 976, 1019, 1052, 1075, 1088, 1121, 1154, 1177, 1210, 1223, 1236, 1259, 1292, 1305, 1328, 1391, 1424, 1457, 1506, 1549, 1562, 1575, 1589, 1603, 1626, 1639, 1662], 215) := by decide +kernel
theorem dL_law_248 : decode cL_law 248 = .ok (.aload_n 1, 1) := by decide +kernel
theorem dL_law_249 : decode cL_law 249 = .ok (.aload_n 0, 1) := by decide +kernel
theorem dL_law_250 : decode cL_law 250 = .ok (.iload_n 3, 1) := by decide +kernel
theorem dL_law_251 : decode cL_law 251 = .ok (.iconst 1, 1) := by decide +kernel
theorem dL_law_252 : decode cL_law 252 = .ok (.iadd, 1) := by decide +kernel
theorem dL_law_253 : decode cL_law 253 = .ok (.iaload, 1) := by decide +kernel
theorem dL_law_254 : decode cL_law 254 = .ok (.aload_n 0, 1) := by decide +kernel
theorem dL_law_255 : decode cL_law 255 = .ok (.iload_n 3, 1) := by decide +kernel
theorem dL_law_256 : decode cL_law 256 = .ok (.iconst 2, 1) := by decide +kernel
theorem dL_law_257 : decode cL_law 257 = .ok (.iadd, 1) := by decide +kernel
theorem dL_law_258 : decode cL_law 258 = .ok (.iaload, 1) := by decide +kernel
theorem dL_law_259 : decode cL_law 259 = .ok (.invokevirtual 13, 3) := by decide +kernel
theorem dL_law_262 : decode cL_law 262 = .ok (.aload_n 2, 1) := by decide +kernel
theorem dL_law_263 : decode cL_law 263 = .ok (.aload_n 0, 1) := by decide +kernel
theorem dL_law_264 : decode cL_law 264 = .ok (.iload_n 3, 1) := by decide +kernel
theorem dL_law_265 : decode cL_law 265 = .ok (.iconst 1, 1) := by decide +kernel
theorem dL_law_266 : decode cL_law 266 = .ok (.iadd, 1) := by decide +kernel
theorem dL_law_267 : decode cL_law 267 = .ok (.iaload, 1) := by decide +kernel
theorem dL_law_268 : decode cL_law 268 = .ok (.aload_n 0, 1) := by decide +kernel
theorem dL_law_269 : decode cL_law 269 = .ok (.iload_n 3, 1) := by decide +kernel
theorem dL_law_270 : decode cL_law 270 = .ok (.iconst 2, 1) := by decide +kernel
theorem dL_law_271 : decode cL_law 271 = .ok (.iadd, 1) := by decide +kernel
theorem dL_law_272 : decode cL_law 272 = .ok (.iaload, 1) := by decide +kernel
theorem dL_law_273 : decode cL_law 273 = .ok (.invokevirtual 17, 3) := by decide +kernel
theorem dL_law_276 : decode cL_law 276 = .ok (.if_icmp .eq 1433, 3) := by decide +kernel
theorem dL_law_279 : decode cL_law 279 = .ok (.iconst 0, 1) := by decide +kernel
theorem dL_law_280 : decode cL_law 280 = .ok (.ireturn, 1) := by decide +kernel
theorem dL_law_281 : decode cL_law 281 = .ok (.aload_n 1, 1) := by decide +kernel
theorem dL_law_282 : decode cL_law 282 = .ok (.aload_n 0, 1) := by decide +kernel
theorem dL_law_283 : decode cL_law 283 = .ok (.iload_n 3, 1) := by decide +kernel
theorem dL_law_284 : decode cL_law 284 = .ok (.iconst 1, 1) := by decide +kernel
theorem dL_law_285 : decode cL_law 285 = .ok (.iadd, 1) := by decide +kernel
theorem dL_law_286 : decode cL_law 286 = .ok (.iaload, 1) := by decide +kernel
theorem dL_law_287 : decode cL_law 287 = .ok (.aload_n 0, 1) := by decide +kernel
theorem dL_law_288 : decode cL_law 288 = .ok (.iload_n 3, 1) := by decide +kernel
theorem dL_law_289 : decode cL_law 289 = .ok (.iconst 2, 1) := by decide +kernel
theorem dL_law_290 : decode cL_law 290 = .ok (.iadd, 1) := by decide +kernel
theorem dL_law_291 : decode cL_law 291 = .ok (.iaload, 1) := by decide +kernel
theorem dL_law_292 : decode cL_law 292 = .ok (.aload_n 0, 1) := by decide +kernel
theorem dL_law_293 : decode cL_law 293 = .ok (.iload_n 3, 1) := by decide +kernel
theorem dL_law_294 : decode cL_law 294 = .ok (.iconst 3, 1) := by decide +kernel
theorem dL_law_295 : decode cL_law 295 = .ok (.iadd, 1) := by decide +kernel
theorem dL_law_296 : decode cL_law 296 = .ok (.iaload, 1) := by decide +kernel
theorem dL_law_297 : decode cL_law 297 = .ok (.invokevirtual 18, 3) := by decide +kernel
theorem dL_law_300 : decode cL_law 300 = .ok (.aload_n 2, 1) := by decide +kernel
theorem dL_law_301 : decode cL_law 301 = .ok (.aload_n 0, 1) := by decide +kernel
theorem dL_law_302 : decode cL_law 302 = .ok (.iload_n 3, 1) := by decide +kernel
theorem dL_law_303 : decode cL_law 303 = .ok (.iconst 1, 1) := by decide +kernel
theorem dL_law_304 : decode cL_law 304 = .ok (.iadd, 1) := by decide +kernel
theorem dL_law_305 : decode cL_law 305 = .ok (.iaload, 1) := by decide +kernel
theorem dL_law_306 : decode cL_law 306 = .ok (.aload_n 0, 1) := by decide +kernel
theorem dL_law_307 : decode cL_law 307 = .ok (.iload_n 3, 1) := by decide +kernel
theorem dL_law_308 : decode cL_law 308 = .ok (.iconst 2, 1) := by decide +kernel
theorem dL_law_309 : decode cL_law 309 = .ok (.iadd, 1) := by decide +kernel
theorem dL_law_310 : decode cL_law 310 = .ok (.iaload, 1) := by decide +kernel
theorem dL_law_311 : decode cL_law 311 = .ok (.aload_n 0, 1) := by decide +kernel
theorem dL_law_312 : decode cL_law 312 = .ok (.iload_n 3, 1) := by decide +kernel
theorem dL_law_313 : decode cL_law 313 = .ok (.iconst 3, 1) := by decide +kernel
theorem dL_law_314 : decode cL_law 314 = .ok (.iadd, 1) := by decide +kernel
theorem dL_law_315 : decode cL_law 315 = .ok (.iaload, 1) := by decide +kernel
theorem dL_law_316 : decode cL_law 316 = .ok (.invokevirtual 22, 3) := by decide +kernel
theorem dL_law_319 : decode cL_law 319 = .ok (.if_icmp .eq 1390, 3) := by decide +kernel
theorem dL_law_322 : decode cL_law 322 = .ok (.iconst 0, 1) := by decide +kernel
theorem dL_law_323 : decode cL_law 323 = .ok (.ireturn, 1) := by decide +kernel
theorem dL_law_324 : decode cL_law 324 = .ok (.aload_n 1, 1) := by decide +kernel
theorem dL_law_325 : decode cL_law 325 = .ok (.aload_n 0, 1) := by decide +kernel
theorem dL_law_326 : decode cL_law 326 = .ok (.iload_n 3, 1) := by decide +kernel
theorem dL_law_327 : decode cL_law 327 = .ok (.iconst 1, 1) := by decide +kernel
theorem dL_law_328 : decode cL_law 328 = .ok (.iadd, 1) := by decide +kernel
theorem dL_law_329 : decode cL_law 329 = .ok (.iaload, 1) := by decide +kernel
theorem dL_law_330 : decode cL_law 330 = .ok (.aload_n 0, 1) := by decide +kernel
theorem dL_law_331 : decode cL_law 331 = .ok (.iload_n 3, 1) := by decide +kernel
theorem dL_law_332 : decode cL_law 332 = .ok (.iconst 2, 1) := by decide +kernel
theorem dL_law_333 : decode cL_law 333 = .ok (.iadd, 1) := by decide +kernel
theorem dL_law_334 : decode cL_law 334 = .ok (.iaload, 1) := by decide +kernel
theorem dL_law_335 : decode cL_law 335 = .ok (.invokevirtual 23, 3) := by decide +kernel
theorem dL_law_338 : decode cL_law 338 = .ok (.aload_n 2, 1) := by decide +kernel
theorem dL_law_339 : decode cL_law 339 = .ok (.aload_n 0, 1) := by decide +kernel
theorem dL_law_340 : decode cL_law 340 = .ok (.iload_n 3, 1) := by decide +kernel
theorem dL_law_341 : decode cL_law 341 = .ok (.iconst 1, 1) := by decide +kernel
theorem dL_law_342 : decode cL_law 342 = .ok (.iadd, 1) := by decide +kernel
theorem dL_law_343 : decode cL_law 343 = .ok (.iaload, 1) := by decide +kernel
theorem dL_law_344 : decode cL_law 344 = .ok (.aload_n 0, 1) := by decide +kernel
theorem dL_law_345 : decode cL_law 345 = .ok (.iload_n 3, 1) := by decide +kernel
theorem dL_law_346 : decode cL_law 346 = .ok (.iconst 2, 1) := by decide +kernel
theorem dL_law_347 : decode cL_law 347 = .ok (.iadd, 1) := by decide +kernel
theorem dL_law_348 : decode cL_law 348 = .ok (.iaload, 1) := by decide +kernel
theorem dL_law_349 : decode cL_law 349 = .ok (.invokevirtual 26, 3) := by decide +kernel
theorem dL_law_352 : decode cL_law 352 = .ok (.if_icmp .eq 1357, 3) := by decide +kernel
theorem dL_law_355 : decode cL_law 355 = .ok (.iconst 0, 1) := by decide +kernel
theorem dL_law_356 : decode cL_law 356 = .ok (.ireturn, 1) := by decide +kernel
theorem dL_law_357 : decode cL_law 357 = .ok (.aload_n 1, 1) := by decide +kernel
theorem dL_law_358 : decode cL_law 358 = .ok (.aload_n 0, 1) := by decide +kernel
theorem dL_law_359 : decode cL_law 359 = .ok (.iload_n 3, 1) := by decide +kernel
theorem dL_law_360 : decode cL_law 360 = .ok (.iconst 1, 1) := by decide +kernel
theorem dL_law_361 : decode cL_law 361 = .ok (.iadd, 1) := by decide +kernel
theorem dL_law_362 : decode cL_law 362 = .ok (.iaload, 1) := by decide +kernel
theorem dL_law_363 : decode cL_law 363 = .ok (.invokevirtual 27, 3) := by decide +kernel
theorem dL_law_366 : decode cL_law 366 = .ok (.aload_n 2, 1) := by decide +kernel
theorem dL_law_367 : decode cL_law 367 = .ok (.aload_n 0, 1) := by decide +kernel
theorem dL_law_368 : decode cL_law 368 = .ok (.iload_n 3, 1) := by decide +kernel
theorem dL_law_369 : decode cL_law 369 = .ok (.iconst 1, 1) := by decide +kernel
theorem dL_law_370 : decode cL_law 370 = .ok (.iadd, 1) := by decide +kernel
theorem dL_law_371 : decode cL_law 371 = .ok (.iaload, 1) := by decide +kernel
theorem dL_law_372 : decode cL_law 372 = .ok (.invokevirtual 31, 3) := by decide +kernel
theorem dL_law_375 : decode cL_law 375 = .ok (.if_icmp .eq 1334, 3) := by decide +kernel
theorem dL_law_378 : decode cL_law 378 = .ok (.iconst 0, 1) := by decide +kernel
theorem dL_law_379 : decode cL_law 379 = .ok (.ireturn, 1) := by decide +kernel
theorem dL_law_380 : decode cL_law 380 = .ok (.aload_n 1, 1) := by decide +kernel
theorem dL_law_381 : decode cL_law 381 = .ok (.aload_n 0, 1) := by decide +kernel
theorem dL_law_382 : decode cL_law 382 = .ok (.iload_n 3, 1) := by decide +kernel
theorem dL_law_383 : decode cL_law 383 = .ok (.iconst 1, 1) := by decide +kernel
theorem dL_law_384 : decode cL_law 384 = .ok (.iadd, 1) := by decide +kernel
theorem dL_law_385 : decode cL_law 385 = .ok (.iaload, 1) := by decide +kernel
theorem dL_law_386 : decode cL_law 386 = .ok (.aload_n 0, 1) := by decide +kernel
theorem dL_law_387 : decode cL_law 387 = .ok (.iload_n 3, 1) := by decide +kernel
theorem dL_law_388 : decode cL_law 388 = .ok (.iconst 2, 1) := by decide +kernel
theorem dL_law_389 : decode cL_law 389 = .ok (.iadd, 1) := by decide +kernel
theorem dL_law_390 : decode cL_law 390 = .ok (.iaload, 1) := by decide +kernel
theorem dL_law_391 : decode cL_law 391 = .ok (.aload_n 0, 1) := by decide +kernel
theorem dL_law_392 : decode cL_law 392 = .ok (.iload_n 3, 1) := by decide +kernel
theorem dL_law_393 : decode cL_law 393 = .ok (.iconst 3, 1) := by decide +kernel
theorem dL_law_394 : decode cL_law 394 = .ok (.iadd, 1) := by decide +kernel
theorem dL_law_395 : decode cL_law 395 = .ok (.iaload, 1) := by decide +kernel
theorem dL_law_396 : decode cL_law 396 = .ok (.aload_n 0, 1) := by decide +kernel
theorem dL_law_397 : decode cL_law 397 = .ok (.iload_n 3, 1) := by decide +kernel
theorem dL_law_398 : decode cL_law 398 = .ok (.iconst 4, 1) := by decide +kernel
theorem dL_law_399 : decode cL_law 399 = .ok (.iadd, 1) := by decide +kernel
theorem dL_law_400 : decode cL_law 400 = .ok (.iaload, 1) := by decide +kernel
theorem dL_law_401 : decode cL_law 401 = .ok (.aload_n 0, 1) := by decide +kernel
theorem dL_law_402 : decode cL_law 402 = .ok (.iload_n 3, 1) := by decide +kernel
theorem dL_law_403 : decode cL_law 403 = .ok (.iconst 5, 1) := by decide +kernel
theorem dL_law_404 : decode cL_law 404 = .ok (.iadd, 1) := by decide +kernel
theorem dL_law_405 : decode cL_law 405 = .ok (.iaload, 1) := by decide +kernel
theorem dL_law_406 : decode cL_law 406 = .ok (.invokevirtual 32, 3) := by decide +kernel
theorem dL_law_409 : decode cL_law 409 = .ok (.aload_n 2, 1) := by decide +kernel
theorem dL_law_410 : decode cL_law 410 = .ok (.aload_n 0, 1) := by decide +kernel
theorem dL_law_411 : decode cL_law 411 = .ok (.iload_n 3, 1) := by decide +kernel
theorem dL_law_412 : decode cL_law 412 = .ok (.iconst 1, 1) := by decide +kernel
theorem dL_law_413 : decode cL_law 413 = .ok (.iadd, 1) := by decide +kernel
theorem dL_law_414 : decode cL_law 414 = .ok (.iaload, 1) := by decide +kernel
theorem dL_law_415 : decode cL_law 415 = .ok (.aload_n 0, 1) := by decide +kernel
theorem dL_law_416 : decode cL_law 416 = .ok (.iload_n 3, 1) := by decide +kernel
theorem dL_law_417 : decode cL_law 417 = .ok (.iconst 2, 1) := by decide +kernel
theorem dL_law_418 : decode cL_law 418 = .ok (.iadd, 1) := by decide +kernel
theorem dL_law_419 : decode cL_law 419 = .ok (.iaload, 1) := by decide +kernel
theorem dL_law_420 : decode cL_law 420 = .ok (.aload_n 0, 1) := by decide +kernel
theorem dL_law_421 : decode cL_law 421 = .ok (.iload_n 3, 1) := by decide +kernel
theorem dL_law_422 : decode cL_law 422 = .ok (.iconst 3, 1) := by decide +kernel
theorem dL_law_423 : decode cL_law 423 = .ok (.iadd, 1) := by decide +kernel
theorem dL_law_424 : decode cL_law 424 = .ok (.iaload, 1) := by decide +kernel
theorem dL_law_425 : decode cL_law 425 = .ok (.aload_n 0, 1) := by decide +kernel
theorem dL_law_426 : decode cL_law 426 = .ok (.iload_n 3, 1) := by decide +kernel
theorem dL_law_427 : decode cL_law 427 = .ok (.iconst 4, 1) := by decide +kernel
theorem dL_law_428 : decode cL_law 428 = .ok (.iadd, 1) := by decide +kernel
theorem dL_law_429 : decode cL_law 429 = .ok (.iaload, 1) := by decide +kernel
theorem dL_law_430 : decode cL_law 430 = .ok (.aload_n 0, 1) := by decide +kernel
theorem dL_law_431 : decode cL_law 431 = .ok (.iload_n 3, 1) := by decide +kernel
theorem dL_law_432 : decode cL_law 432 = .ok (.iconst 5, 1) := by decide +kernel
theorem dL_law_433 : decode cL_law 433 = .ok (.iadd, 1) := by decide +kernel
theorem dL_law_434 : decode cL_law 434 = .ok (.iaload, 1) := by decide +kernel
theorem dL_law_435 : decode cL_law 435 = .ok (.invokevirtual 36, 3) := by decide +kernel
theorem dL_law_438 : decode cL_law 438 = .ok (.if_icmp .eq 1271, 3) := by decide +kernel
theorem dL_law_441 : decode cL_law 441 = .ok (.iconst 0, 1) := by decide +kernel
theorem dL_law_442 : decode cL_law 442 = .ok (.ireturn, 1) := by decide +kernel
theorem dL_law_443 : decode cL_law 443 = .ok (.aload_n 1, 1) := by decide +kernel
theorem dL_law_444 : decode cL_law 444 = .ok (.aload_n 0, 1) := by decide +kernel
theorem dL_law_445 : decode cL_law 445 = .ok (.iload_n 3, 1) := by decide +kernel
theorem dL_law_446 : decode cL_law 446 = .ok (.iconst 1, 1) := by decide +kernel
theorem dL_law_447 : decode cL_law 447 = .ok (.iadd, 1) := by decide +kernel
theorem dL_law_448 : decode cL_law 448 = .ok (.iaload, 1) := by decide +kernel
theorem dL_law_449 : decode cL_law 449 = .ok (.invokevirtual 37, 3) := by decide +kernel
theorem dL_law_452 : decode cL_law 452 = .ok (.aload_n 2, 1) := by decide +kernel
theorem dL_law_453 : decode cL_law 453 = .ok (.aload_n 0, 1) := by decide +kernel
theorem dL_law_454 : decode cL_law 454 = .ok (.iload_n 3, 1) := by decide +kernel
theorem dL_law_455 : decode cL_law 455 = .ok (.iconst 1, 1) := by decide +kernel
theorem dL_law_456 : decode cL_law 456 = .ok (.iadd, 1) := by decide +kernel
theorem dL_law_457 : decode cL_law 457 = .ok (.iaload, 1) := by decide +kernel
theorem dL_law_458 : decode cL_law 458 = .ok (.invokevirtual 40, 3) := by decide +kernel
theorem dL_law_461 : decode cL_law 461 = .ok (.if_icmp .eq 1248, 3) := by decide +kernel
theorem dL_law_464 : decode cL_law 464 = .ok (.iconst 0, 1) := by decide +kernel
theorem dL_law_465 : decode cL_law 465 = .ok (.ireturn, 1) := by decide +kernel
theorem dL_law_466 : decode cL_law 466 = .ok (.aload_n 1, 1) := by decide +kernel
theorem dL_law_467 : decode cL_law 467 = .ok (.aload_n 0, 1) := by decide +kernel
theorem dL_law_468 : decode cL_law 468 = .ok (.iload_n 3, 1) := by decide +kernel
theorem dL_law_469 : decode cL_law 469 = .ok (.iconst 1, 1) := by decide +kernel
theorem dL_law_470 : decode cL_law 470 = .ok (.iadd, 1) := by decide +kernel
theorem dL_law_471 : decode cL_law 471 = .ok (.iaload, 1) := by decide +kernel
theorem dL_law_472 : decode cL_law 472 = .ok (.aload_n 0, 1) := by decide +kernel
theorem dL_law_473 : decode cL_law 473 = .ok (.iload_n 3, 1) := by decide +kernel
theorem dL_law_474 : decode cL_law 474 = .ok (.iconst 2, 1) := by decide +kernel
theorem dL_law_475 : decode cL_law 475 = .ok (.iadd, 1) := by decide +kernel
theorem dL_law_476 : decode cL_law 476 = .ok (.iaload, 1) := by decide +kernel
theorem dL_law_477 : decode cL_law 477 = .ok (.invokevirtual 41, 3) := by decide +kernel
theorem dL_law_480 : decode cL_law 480 = .ok (.aload_n 2, 1) := by decide +kernel
theorem dL_law_481 : decode cL_law 481 = .ok (.aload_n 0, 1) := by decide +kernel
theorem dL_law_482 : decode cL_law 482 = .ok (.iload_n 3, 1) := by decide +kernel
theorem dL_law_483 : decode cL_law 483 = .ok (.iconst 1, 1) := by decide +kernel
theorem dL_law_484 : decode cL_law 484 = .ok (.iadd, 1) := by decide +kernel
theorem dL_law_485 : decode cL_law 485 = .ok (.iaload, 1) := by decide +kernel
theorem dL_law_486 : decode cL_law 486 = .ok (.aload_n 0, 1) := by decide +kernel
theorem dL_law_487 : decode cL_law 487 = .ok (.iload_n 3, 1) := by decide +kernel
theorem dL_law_488 : decode cL_law 488 = .ok (.iconst 2, 1) := by decide +kernel
theorem dL_law_489 : decode cL_law 489 = .ok (.iadd, 1) := by decide +kernel
theorem dL_law_490 : decode cL_law 490 = .ok (.iaload, 1) := by decide +kernel
theorem dL_law_491 : decode cL_law 491 = .ok (.invokevirtual 44, 3) := by decide +kernel
theorem dL_law_494 : decode cL_law 494 = .ok (.if_icmp .eq 1215, 3) := by decide +kernel
theorem dL_law_497 : decode cL_law 497 = .ok (.iconst 0, 1) := by decide +kernel
theorem dL_law_498 : decode cL_law 498 = .ok (.ireturn, 1) := by decide +kernel
theorem dL_law_499 : decode cL_law 499 = .ok (.aload_n 1, 1) := by decide +kernel
theorem dL_law_500 : decode cL_law 500 = .ok (.aload_n 0, 1) := by decide +kernel
theorem dL_law_501 : decode cL_law 501 = .ok (.iload_n 3, 1) := by decide +kernel
theorem dL_law_502 : decode cL_law 502 = .ok (.iconst 1, 1) := by decide +kernel
theorem dL_law_503 : decode cL_law 503 = .ok (.iadd, 1) := by decide +kernel
theorem dL_law_504 : decode cL_law 504 = .ok (.iaload, 1) := by decide +kernel
theorem dL_law_505 : decode cL_law 505 = .ok (.aload_n 0, 1) := by decide +kernel
theorem dL_law_506 : decode cL_law 506 = .ok (.iload_n 3, 1) := by decide +kernel
theorem dL_law_507 : decode cL_law 507 = .ok (.iconst 2, 1) := by decide +kernel
theorem dL_law_508 : decode cL_law 508 = .ok (.iadd, 1) := by decide +kernel
theorem dL_law_509 : decode cL_law 509 = .ok (.iaload, 1) := by decide +kernel
theorem dL_law_510 : decode cL_law 510 = .ok (.aload_n 0, 1) := by decide +kernel
theorem dL_law_511 : decode cL_law 511 = .ok (.iload_n 3, 1) := by decide +kernel
theorem dL_law_512 : decode cL_law 512 = .ok (.iconst 3, 1) := by decide +kernel
theorem dL_law_513 : decode cL_law 513 = .ok (.iadd, 1) := by decide +kernel
theorem dL_law_514 : decode cL_law 514 = .ok (.iaload, 1) := by decide +kernel
theorem dL_law_515 : decode cL_law 515 = .ok (.invokevirtual 45, 3) := by decide +kernel
theorem dL_law_518 : decode cL_law 518 = .ok (.aload_n 2, 1) := by decide +kernel
theorem dL_law_519 : decode cL_law 519 = .ok (.aload_n 0, 1) := by decide +kernel
theorem dL_law_520 : decode cL_law 520 = .ok (.iload_n 3, 1) := by decide +kernel
theorem dL_law_521 : decode cL_law 521 = .ok (.iconst 1, 1) := by decide +kernel
theorem dL_law_522 : decode cL_law 522 = .ok (.iadd, 1) := by decide +kernel
theorem dL_law_523 : decode cL_law 523 = .ok (.iaload, 1) := by decide +kernel
theorem dL_law_524 : decode cL_law 524 = .ok (.aload_n 0, 1) := by decide +kernel
theorem dL_law_525 : decode cL_law 525 = .ok (.iload_n 3, 1) := by decide +kernel
theorem dL_law_526 : decode cL_law 526 = .ok (.iconst 2, 1) := by decide +kernel
theorem dL_law_527 : decode cL_law 527 = .ok (.iadd, 1) := by decide +kernel
theorem dL_law_528 : decode cL_law 528 = .ok (.iaload, 1) := by decide +kernel
theorem dL_law_529 : decode cL_law 529 = .ok (.aload_n 0, 1) := by decide +kernel
theorem dL_law_530 : decode cL_law 530 = .ok (.iload_n 3, 1) := by decide +kernel
theorem dL_law_531 : decode cL_law 531 = .ok (.iconst 3, 1) := by decide +kernel
theorem dL_law_532 : decode cL_law 532 = .ok (.iadd, 1) := by decide +kernel
theorem dL_law_533 : decode cL_law 533 = .ok (.iaload, 1) := by decide +kernel
theorem dL_law_534 : decode cL_law 534 = .ok (.invokevirtual 48, 3) := by decide +kernel
theorem dL_law_537 : decode cL_law 537 = .ok (.if_icmp .eq 1172, 3) := by decide +kernel
theorem dL_law_540 : decode cL_law 540 = .ok (.iconst 0, 1) := by decide +kernel
theorem dL_law_541 : decode cL_law 541 = .ok (.ireturn, 1) := by decide +kernel
theorem dL_law_542 : decode cL_law 542 = .ok (.aload_n 1, 1) := by decide +kernel
theorem dL_law_543 : decode cL_law 543 = .ok (.aload_n 0, 1) := by decide +kernel
theorem dL_law_544 : decode cL_law 544 = .ok (.iload_n 3, 1) := by decide +kernel
theorem dL_law_545 : decode cL_law 545 = .ok (.iconst 1, 1) := by decide +kernel
theorem dL_law_546 : decode cL_law 546 = .ok (.iadd, 1) := by decide +kernel
theorem dL_law_547 : decode cL_law 547 = .ok (.iaload, 1) := by decide +kernel
theorem dL_law_548 : decode cL_law 548 = .ok (.aload_n 0, 1) := by decide +kernel
theorem dL_law_549 : decode cL_law 549 = .ok (.iload_n 3, 1) := by decide +kernel
theorem dL_law_550 : decode cL_law 550 = .ok (.iconst 2, 1) := by decide +kernel
theorem dL_law_551 : decode cL_law 551 = .ok (.iadd, 1) := by decide +kernel
theorem dL_law_552 : decode cL_law 552 = .ok (.iaload, 1) := by decide +kernel
theorem dL_law_553 : decode cL_law 553 = .ok (.aload_n 0, 1) := by decide +kernel
theorem dL_law_554 : decode cL_law 554 = .ok (.iload_n 3, 1) := by decide +kernel
theorem dL_law_555 : decode cL_law 555 = .ok (.iconst 3, 1) := by decide +kernel
theorem dL_law_556 : decode cL_law 556 = .ok (.iadd, 1) := by decide +kernel
theorem dL_law_557 : decode cL_law 557 = .ok (.iaload, 1) := by decide +kernel
theorem dL_law_558 : decode cL_law 558 = .ok (.aload_n 0, 1) := by decide +kernel
theorem dL_law_559 : decode cL_law 559 = .ok (.iload_n 3, 1) := by decide +kernel
theorem dL_law_560 : decode cL_law 560 = .ok (.iconst 4, 1) := by decide +kernel
theorem dL_law_561 : decode cL_law 561 = .ok (.iadd, 1) := by decide +kernel
theorem dL_law_562 : decode cL_law 562 = .ok (.iaload, 1) := by decide +kernel
theorem dL_law_563 : decode cL_law 563 = .ok (.invokevirtual 49, 3) := by decide +kernel
theorem dL_law_566 : decode cL_law 566 = .ok (.aload_n 2, 1) := by decide +kernel
theorem dL_law_567 : decode cL_law 567 = .ok (.aload_n 0, 1) := by decide +kernel
theorem dL_law_568 : decode cL_law 568 = .ok (.iload_n 3, 1) := by decide +kernel
theorem dL_law_569 : decode cL_law 569 = .ok (.iconst 1, 1) := by decide +kernel
theorem dL_law_570 : decode cL_law 570 = .ok (.iadd, 1) := by decide +kernel
theorem dL_law_571 : decode cL_law 571 = .ok (.iaload, 1) := by decide +kernel
theorem dL_law_572 : decode cL_law 572 = .ok (.aload_n 0, 1) := by decide +kernel
theorem dL_law_573 : decode cL_law 573 = .ok (.iload_n 3, 1) := by decide +kernel
theorem dL_law_574 : decode cL_law 574 = .ok (.iconst 2, 1) := by decide +kernel
theorem dL_law_575 : decode cL_law 575 = .ok (.iadd, 1) := by decide +kernel
theorem dL_law_576 : decode cL_law 576 = .ok (.iaload, 1) := by decide +kernel
theorem dL_law_577 : decode cL_law 577 = .ok (.aload_n 0, 1) := by decide +kernel
theorem dL_law_578 : decode cL_law 578 = .ok (.iload_n 3, 1) := by decide +kernel
theorem dL_law_579 : decode cL_law 579 = .ok (.iconst 3, 1) := by decide +kernel
theorem dL_law_580 : decode cL_law 580 = .ok (.iadd, 1) := by decide +kernel
theorem dL_law_581 : decode cL_law 581 = .ok (.iaload, 1) := by decide +kernel
theorem dL_law_582 : decode cL_law 582 = .ok (.aload_n 0, 1) := by decide +kernel
theorem dL_law_583 : decode cL_law 583 = .ok (.iload_n 3, 1) := by decide +kernel
theorem dL_law_584 : decode cL_law 584 = .ok (.iconst 4, 1) := by decide +kernel
theorem dL_law_585 : decode cL_law 585 = .ok (.iadd, 1) := by decide +kernel
theorem dL_law_586 : decode cL_law 586 = .ok (.iaload, 1) := by decide +kernel
theorem dL_law_587 : decode cL_law 587 = .ok (.invokevirtual 53, 3) := by decide +kernel
theorem dL_law_590 : decode cL_law 590 = .ok (.if_icmp .eq 1119, 3) := by decide +kernel
theorem dL_law_593 : decode cL_law 593 = .ok (.iconst 0, 1) := by decide +kernel
theorem dL_law_594 : decode cL_law 594 = .ok (.ireturn, 1) := by decide +kernel
theorem dL_law_595 : decode cL_law 595 = .ok (.aload_n 1, 1) := by decide +kernel
theorem dL_law_596 : decode cL_law 596 = .ok (.aload_n 0, 1) := by decide +kernel
theorem dL_law_597 : decode cL_law 597 = .ok (.iload_n 3, 1) := by decide +kernel
theorem dL_law_598 : decode cL_law 598 = .ok (.iconst 1, 1) := by decide +kernel
theorem dL_law_599 : decode cL_law 599 = .ok (.iadd, 1) := by decide +kernel
theorem dL_law_600 : decode cL_law 600 = .ok (.iaload, 1) := by decide +kernel
theorem dL_law_601 : decode cL_law 601 = .ok (.invokevirtual 54, 3) := by decide +kernel
theorem dL_law_604 : decode cL_law 604 = .ok (.aload_n 2, 1) := by decide +kernel
theorem dL_law_605 : decode cL_law 605 = .ok (.aload_n 0, 1) := by decide +kernel
theorem dL_law_606 : decode cL_law 606 = .ok (.iload_n 3, 1) := by decide +kernel
theorem dL_law_607 : decode cL_law 607 = .ok (.iconst 1, 1) := by decide +kernel
theorem dL_law_608 : decode cL_law 608 = .ok (.iadd, 1) := by decide +kernel
theorem dL_law_609 : decode cL_law 609 = .ok (.iaload, 1) := by decide +kernel
theorem dL_law_610 : decode cL_law 610 = .ok (.invokevirtual 57, 3) := by decide +kernel
theorem dL_law_613 : decode cL_law 613 = .ok (.if_icmp .eq 1096, 3) := by decide +kernel
theorem dL_law_616 : decode cL_law 616 = .ok (.iconst 0, 1) := by decide +kernel
theorem dL_law_617 : decode cL_law 617 = .ok (.ireturn, 1) := by decide +kernel
theorem dL_law_618 : decode cL_law 618 = .ok (.aload_n 1, 1) := by decide +kernel
theorem dL_law_619 : decode cL_law 619 = .ok (.aload_n 0, 1) := by decide +kernel
theorem dL_law_620 : decode cL_law 620 = .ok (.iload_n 3, 1) := by decide +kernel
theorem dL_law_621 : decode cL_law 621 = .ok (.iconst 1, 1) := by decide +kernel
theorem dL_law_622 : decode cL_law 622 = .ok (.iadd, 1) := by decide +kernel
theorem dL_law_623 : decode cL_law 623 = .ok (.iaload, 1) := by decide +kernel
theorem dL_law_624 : decode cL_law 624 = .ok (.aload_n 0, 1) := by decide +kernel
theorem dL_law_625 : decode cL_law 625 = .ok (.iload_n 3, 1) := by decide +kernel
theorem dL_law_626 : decode cL_law 626 = .ok (.iconst 2, 1) := by decide +kernel
theorem dL_law_627 : decode cL_law 627 = .ok (.iadd, 1) := by decide +kernel
theorem dL_law_628 : decode cL_law 628 = .ok (.iaload, 1) := by decide +kernel
theorem dL_law_629 : decode cL_law 629 = .ok (.invokevirtual 58, 3) := by decide +kernel
theorem dL_law_632 : decode cL_law 632 = .ok (.aload_n 2, 1) := by decide +kernel
theorem dL_law_633 : decode cL_law 633 = .ok (.aload_n 0, 1) := by decide +kernel
theorem dL_law_634 : decode cL_law 634 = .ok (.iload_n 3, 1) := by decide +kernel
theorem dL_law_635 : decode cL_law 635 = .ok (.iconst 1, 1) := by decide +kernel
theorem dL_law_636 : decode cL_law 636 = .ok (.iadd, 1) := by decide +kernel
theorem dL_law_637 : decode cL_law 637 = .ok (.iaload, 1) := by decide +kernel
theorem dL_law_638 : decode cL_law 638 = .ok (.aload_n 0, 1) := by decide +kernel
theorem dL_law_639 : decode cL_law 639 = .ok (.iload_n 3, 1) := by decide +kernel
theorem dL_law_640 : decode cL_law 640 = .ok (.iconst 2, 1) := by decide +kernel
theorem dL_law_641 : decode cL_law 641 = .ok (.iadd, 1) := by decide +kernel
theorem dL_law_642 : decode cL_law 642 = .ok (.iaload, 1) := by decide +kernel
theorem dL_law_643 : decode cL_law 643 = .ok (.invokevirtual 61, 3) := by decide +kernel
theorem dL_law_646 : decode cL_law 646 = .ok (.if_icmp .eq 1063, 3) := by decide +kernel
theorem dL_law_649 : decode cL_law 649 = .ok (.iconst 0, 1) := by decide +kernel
theorem dL_law_650 : decode cL_law 650 = .ok (.ireturn, 1) := by decide +kernel
theorem dL_law_651 : decode cL_law 651 = .ok (.aload_n 1, 1) := by decide +kernel
theorem dL_law_652 : decode cL_law 652 = .ok (.aload_n 0, 1) := by decide +kernel
theorem dL_law_653 : decode cL_law 653 = .ok (.iload_n 3, 1) := by decide +kernel
theorem dL_law_654 : decode cL_law 654 = .ok (.iconst 1, 1) := by decide +kernel
theorem dL_law_655 : decode cL_law 655 = .ok (.iadd, 1) := by decide +kernel
theorem dL_law_656 : decode cL_law 656 = .ok (.iaload, 1) := by decide +kernel
theorem dL_law_657 : decode cL_law 657 = .ok (.aload_n 0, 1) := by decide +kernel
theorem dL_law_658 : decode cL_law 658 = .ok (.iload_n 3, 1) := by decide +kernel
theorem dL_law_659 : decode cL_law 659 = .ok (.iconst 2, 1) := by decide +kernel
theorem dL_law_660 : decode cL_law 660 = .ok (.iadd, 1) := by decide +kernel
theorem dL_law_661 : decode cL_law 661 = .ok (.iaload, 1) := by decide +kernel
theorem dL_law_662 : decode cL_law 662 = .ok (.invokevirtual 62, 3) := by decide +kernel
theorem dL_law_665 : decode cL_law 665 = .ok (.aload_n 2, 1) := by decide +kernel
theorem dL_law_666 : decode cL_law 666 = .ok (.aload_n 0, 1) := by decide +kernel
theorem dL_law_667 : decode cL_law 667 = .ok (.iload_n 3, 1) := by decide +kernel
theorem dL_law_668 : decode cL_law 668 = .ok (.iconst 1, 1) := by decide +kernel
theorem dL_law_669 : decode cL_law 669 = .ok (.iadd, 1) := by decide +kernel
theorem dL_law_670 : decode cL_law 670 = .ok (.iaload, 1) := by decide +kernel
theorem dL_law_671 : decode cL_law 671 = .ok (.aload_n 0, 1) := by decide +kernel
theorem dL_law_672 : decode cL_law 672 = .ok (.iload_n 3, 1) := by decide +kernel
theorem dL_law_673 : decode cL_law 673 = .ok (.iconst 2, 1) := by decide +kernel
theorem dL_law_674 : decode cL_law 674 = .ok (.iadd, 1) := by decide +kernel
theorem dL_law_675 : decode cL_law 675 = .ok (.iaload, 1) := by decide +kernel
theorem dL_law_676 : decode cL_law 676 = .ok (.invokevirtual 65, 3) := by decide +kernel
theorem dL_law_679 : decode cL_law 679 = .ok (.if_icmp .eq 1030, 3) := by decide +kernel
theorem dL_law_682 : decode cL_law 682 = .ok (.iconst 0, 1) := by decide +kernel
theorem dL_law_683 : decode cL_law 683 = .ok (.ireturn, 1) := by decide +kernel
theorem dL_law_684 : decode cL_law 684 = .ok (.aload_n 1, 1) := by decide +kernel
theorem dL_law_685 : decode cL_law 685 = .ok (.aload_n 0, 1) := by decide +kernel
theorem dL_law_686 : decode cL_law 686 = .ok (.iload_n 3, 1) := by decide +kernel
theorem dL_law_687 : decode cL_law 687 = .ok (.iconst 1, 1) := by decide +kernel
theorem dL_law_688 : decode cL_law 688 = .ok (.iadd, 1) := by decide +kernel
theorem dL_law_689 : decode cL_law 689 = .ok (.iaload, 1) := by decide +kernel
theorem dL_law_690 : decode cL_law 690 = .ok (.aload_n 0, 1) := by decide +kernel
theorem dL_law_691 : decode cL_law 691 = .ok (.iload_n 3, 1) := by decide +kernel
theorem dL_law_692 : decode cL_law 692 = .ok (.iconst 2, 1) := by decide +kernel
theorem dL_law_693 : decode cL_law 693 = .ok (.iadd, 1) := by decide +kernel
theorem dL_law_694 : decode cL_law 694 = .ok (.iaload, 1) := by decide +kernel
theorem dL_law_695 : decode cL_law 695 = .ok (.aload_n 0, 1) := by decide +kernel
theorem dL_law_696 : decode cL_law 696 = .ok (.iload_n 3, 1) := by decide +kernel
theorem dL_law_697 : decode cL_law 697 = .ok (.iconst 3, 1) := by decide +kernel
theorem dL_law_698 : decode cL_law 698 = .ok (.iadd, 1) := by decide +kernel
theorem dL_law_699 : decode cL_law 699 = .ok (.iaload, 1) := by decide +kernel
theorem dL_law_700 : decode cL_law 700 = .ok (.aload_n 0, 1) := by decide +kernel
theorem dL_law_701 : decode cL_law 701 = .ok (.iload_n 3, 1) := by decide +kernel
theorem dL_law_702 : decode cL_law 702 = .ok (.iconst 4, 1) := by decide +kernel
theorem dL_law_703 : decode cL_law 703 = .ok (.iadd, 1) := by decide +kernel
theorem dL_law_704 : decode cL_law 704 = .ok (.iaload, 1) := by decide +kernel
theorem dL_law_705 : decode cL_law 705 = .ok (.invokevirtual 66, 3) := by decide +kernel
theorem dL_law_708 : decode cL_law 708 = .ok (.aload_n 2, 1) := by decide +kernel
theorem dL_law_709 : decode cL_law 709 = .ok (.aload_n 0, 1) := by decide +kernel
theorem dL_law_710 : decode cL_law 710 = .ok (.iload_n 3, 1) := by decide +kernel
theorem dL_law_711 : decode cL_law 711 = .ok (.iconst 1, 1) := by decide +kernel
theorem dL_law_712 : decode cL_law 712 = .ok (.iadd, 1) := by decide +kernel
theorem dL_law_713 : decode cL_law 713 = .ok (.iaload, 1) := by decide +kernel
theorem dL_law_714 : decode cL_law 714 = .ok (.aload_n 0, 1) := by decide +kernel
theorem dL_law_715 : decode cL_law 715 = .ok (.iload_n 3, 1) := by decide +kernel
theorem dL_law_716 : decode cL_law 716 = .ok (.iconst 2, 1) := by decide +kernel
theorem dL_law_717 : decode cL_law 717 = .ok (.iadd, 1) := by decide +kernel
theorem dL_law_718 : decode cL_law 718 = .ok (.iaload, 1) := by decide +kernel
theorem dL_law_719 : decode cL_law 719 = .ok (.aload_n 0, 1) := by decide +kernel
theorem dL_law_720 : decode cL_law 720 = .ok (.iload_n 3, 1) := by decide +kernel
theorem dL_law_721 : decode cL_law 721 = .ok (.iconst 3, 1) := by decide +kernel
theorem dL_law_722 : decode cL_law 722 = .ok (.iadd, 1) := by decide +kernel
theorem dL_law_723 : decode cL_law 723 = .ok (.iaload, 1) := by decide +kernel
theorem dL_law_724 : decode cL_law 724 = .ok (.aload_n 0, 1) := by decide +kernel
theorem dL_law_725 : decode cL_law 725 = .ok (.iload_n 3, 1) := by decide +kernel
theorem dL_law_726 : decode cL_law 726 = .ok (.iconst 4, 1) := by decide +kernel
theorem dL_law_727 : decode cL_law 727 = .ok (.iadd, 1) := by decide +kernel
theorem dL_law_728 : decode cL_law 728 = .ok (.iaload, 1) := by decide +kernel
theorem dL_law_729 : decode cL_law 729 = .ok (.invokevirtual 69, 3) := by decide +kernel
theorem dL_law_732 : decode cL_law 732 = .ok (.if_icmp .eq 977, 3) := by decide +kernel
theorem dL_law_735 : decode cL_law 735 = .ok (.iconst 0, 1) := by decide +kernel
theorem dL_law_736 : decode cL_law 736 = .ok (.ireturn, 1) := by decide +kernel
theorem dL_law_737 : decode cL_law 737 = .ok (.aload_n 1, 1) := by decide +kernel
theorem dL_law_738 : decode cL_law 738 = .ok (.aload_n 0, 1) := by decide +kernel
theorem dL_law_739 : decode cL_law 739 = .ok (.iload_n 3, 1) := by decide +kernel
theorem dL_law_740 : decode cL_law 740 = .ok (.iconst 1, 1) := by decide +kernel
theorem dL_law_741 : decode cL_law 741 = .ok (.iadd, 1) := by decide +kernel
theorem dL_law_742 : decode cL_law 742 = .ok (.iaload, 1) := by decide +kernel
theorem dL_law_743 : decode cL_law 743 = .ok (.aload_n 0, 1) := by decide +kernel
theorem dL_law_744 : decode cL_law 744 = .ok (.iload_n 3, 1) := by decide +kernel
theorem dL_law_745 : decode cL_law 745 = .ok (.iconst 2, 1) := by decide +kernel
theorem dL_law_746 : decode cL_law 746 = .ok (.iadd, 1) := by decide +kernel
theorem dL_law_747 : decode cL_law 747 = .ok (.iaload, 1) := by decide +kernel
theorem dL_law_748 : decode cL_law 748 = .ok (.aload_n 0, 1) := by decide +kernel
theorem dL_law_749 : decode cL_law 749 = .ok (.iload_n 3, 1) := by decide +kernel
theorem dL_law_750 : decode cL_law 750 = .ok (.iconst 3, 1) := by decide +kernel
theorem dL_law_751 : decode cL_law 751 = .ok (.iadd, 1) := by decide +kernel
theorem dL_law_752 : decode cL_law 752 = .ok (.iaload, 1) := by decide +kernel
theorem dL_law_753 : decode cL_law 753 = .ok (.aload_n 0, 1) := by decide +kernel
theorem dL_law_754 : decode cL_law 754 = .ok (.iload_n 3, 1) := by decide +kernel
theorem dL_law_755 : decode cL_law 755 = .ok (.iconst 4, 1) := by decide +kernel
theorem dL_law_756 : decode cL_law 756 = .ok (.iadd, 1) := by decide +kernel
theorem dL_law_757 : decode cL_law 757 = .ok (.iaload, 1) := by decide +kernel
theorem dL_law_758 : decode cL_law 758 = .ok (.aload_n 0, 1) := by decide +kernel
theorem dL_law_759 : decode cL_law 759 = .ok (.iload_n 3, 1) := by decide +kernel
theorem dL_law_760 : decode cL_law 760 = .ok (.iconst 5, 1) := by decide +kernel
theorem dL_law_761 : decode cL_law 761 = .ok (.iadd, 1) := by decide +kernel
theorem dL_law_762 : decode cL_law 762 = .ok (.iaload, 1) := by decide +kernel
theorem dL_law_763 : decode cL_law 763 = .ok (.aload_n 0, 1) := by decide +kernel
theorem dL_law_764 : decode cL_law 764 = .ok (.iload_n 3, 1) := by decide +kernel
theorem dL_law_765 : decode cL_law 765 = .ok (.bipush 6, 2) := by decide +kernel
theorem dL_law_767 : decode cL_law 767 = .ok (.iadd, 1) := by decide +kernel
theorem dL_law_768 : decode cL_law 768 = .ok (.iaload, 1) := by decide +kernel
theorem dL_law_769 : decode cL_law 769 = .ok (.invokevirtual 70, 3) := by decide +kernel
theorem dL_law_772 : decode cL_law 772 = .ok (.aload_n 2, 1) := by decide +kernel
theorem dL_law_773 : decode cL_law 773 = .ok (.aload_n 0, 1) := by decide +kernel
theorem dL_law_774 : decode cL_law 774 = .ok (.iload_n 3, 1) := by decide +kernel
theorem dL_law_775 : decode cL_law 775 = .ok (.iconst 1, 1) := by decide +kernel
theorem dL_law_776 : decode cL_law 776 = .ok (.iadd, 1) := by decide +kernel
theorem dL_law_777 : decode cL_law 777 = .ok (.iaload, 1) := by decide +kernel
theorem dL_law_778 : decode cL_law 778 = .ok (.aload_n 0, 1) := by decide +kernel
theorem dL_law_779 : decode cL_law 779 = .ok (.iload_n 3, 1) := by decide +kernel
theorem dL_law_780 : decode cL_law 780 = .ok (.iconst 2, 1) := by decide +kernel
theorem dL_law_781 : decode cL_law 781 = .ok (.iadd, 1) := by decide +kernel
theorem dL_law_782 : decode cL_law 782 = .ok (.iaload, 1) := by decide +kernel
theorem dL_law_783 : decode cL_law 783 = .ok (.aload_n 0, 1) := by decide +kernel
theorem dL_law_784 : decode cL_law 784 = .ok (.iload_n 3, 1) := by decide +kernel
theorem dL_law_785 : decode cL_law 785 = .ok (.iconst 3, 1) := by decide +kernel
theorem dL_law_786 : decode cL_law 786 = .ok (.iadd, 1) := by decide +kernel
theorem dL_law_787 : decode cL_law 787 = .ok (.iaload, 1) := by decide +kernel
theorem dL_law_788 : decode cL_law 788 = .ok (.aload_n 0, 1) := by decide +kernel
theorem dL_law_789 : decode cL_law 789 = .ok (.iload_n 3, 1) := by decide +kernel
theorem dL_law_790 : decode cL_law 790 = .ok (.iconst 4, 1) := by decide +kernel
theorem dL_law_791 : decode cL_law 791 = .ok (.iadd, 1) := by decide +kernel
theorem dL_law_792 : decode cL_law 792 = .ok (.iaload, 1) := by decide +kernel
theorem dL_law_793 : decode cL_law 793 = .ok (.aload_n 0, 1) := by decide +kernel
theorem dL_law_794 : decode cL_law 794 = .ok (.iload_n 3, 1) := by decide +kernel
theorem dL_law_795 : decode cL_law 795 = .ok (.iconst 5, 1) := by decide +kernel
theorem dL_law_796 : decode cL_law 796 = .ok (.iadd, 1) := by decide +kernel
theorem dL_law_797 : decode cL_law 797 = .ok (.iaload, 1) := by decide +kernel
theorem dL_law_798 : decode cL_law 798 = .ok (.aload_n 0, 1) := by decide +kernel
theorem dL_law_799 : decode cL_law 799 = .ok (.iload_n 3, 1) := by decide +kernel
theorem dL_law_800 : decode cL_law 800 = .ok (.bipush 6, 2) := by decide +kernel
theorem dL_law_802 : decode cL_law 802 = .ok (.iadd, 1) := by decide +kernel
theorem dL_law_803 : decode cL_law 803 = .ok (.iaload, 1) := by decide +kernel
theorem dL_law_804 : decode cL_law 804 = .ok (.invokevirtual 74, 3) := by decide +kernel
theorem dL_law_807 : decode cL_law 807 = .ok (.if_icmp .eq 902, 3) := by decide +kernel
theorem dL_law_810 : decode cL_law 810 = .ok (.iconst 0, 1) := by decide +kernel
theorem dL_law_811 : decode cL_law 811 = .ok (.ireturn, 1) := by decide +kernel
theorem dL_law_812 : decode cL_law 812 = .ok (.aload_n 1, 1) := by decide +kernel
theorem dL_law_813 : decode cL_law 813 = .ok (.aload_n 0, 1) := by decide +kernel
theorem dL_law_814 : decode cL_law 814 = .ok (.iload_n 3, 1) := by decide +kernel
theorem dL_law_815 : decode cL_law 815 = .ok (.iconst 1, 1) := by decide +kernel
theorem dL_law_816 : decode cL_law 816 = .ok (.iadd, 1) := by decide +kernel
theorem dL_law_817 : decode cL_law 817 = .ok (.iaload, 1) := by decide +kernel
theorem dL_law_818 : decode cL_law 818 = .ok (.aload_n 0, 1) := by decide +kernel
theorem dL_law_819 : decode cL_law 819 = .ok (.iload_n 3, 1) := by decide +kernel
theorem dL_law_820 : decode cL_law 820 = .ok (.iconst 2, 1) := by decide +kernel
theorem dL_law_821 : decode cL_law 821 = .ok (.iadd, 1) := by decide +kernel
theorem dL_law_822 : decode cL_law 822 = .ok (.iaload, 1) := by decide +kernel
theorem dL_law_823 : decode cL_law 823 = .ok (.invokevirtual 75, 3) := by decide +kernel
theorem dL_law_826 : decode cL_law 826 = .ok (.aload_n 2, 1) := by decide +kernel
theorem dL_law_827 : decode cL_law 827 = .ok (.aload_n 0, 1) := by decide +kernel
theorem dL_law_828 : decode cL_law 828 = .ok (.iload_n 3, 1) := by decide +kernel
theorem dL_law_829 : decode cL_law 829 = .ok (.iconst 1, 1) := by decide +kernel
theorem dL_law_830 : decode cL_law 830 = .ok (.iadd, 1) := by decide +kernel
theorem dL_law_831 : decode cL_law 831 = .ok (.iaload, 1) := by decide +kernel
theorem dL_law_832 : decode cL_law 832 = .ok (.aload_n 0, 1) := by decide +kernel
theorem dL_law_833 : decode cL_law 833 = .ok (.iload_n 3, 1) := by decide +kernel
theorem dL_law_834 : decode cL_law 834 = .ok (.iconst 2, 1) := by decide +kernel
theorem dL_law_835 : decode cL_law 835 = .ok (.iadd, 1) := by decide +kernel
theorem dL_law_836 : decode cL_law 836 = .ok (.iaload, 1) := by decide +kernel
theorem dL_law_837 : decode cL_law 837 = .ok (.invokevirtual 78, 3) := by decide +kernel
theorem dL_law_840 : decode cL_law 840 = .ok (.if_icmp .eq 869, 3) := by decide +kernel
theorem dL_law_843 : decode cL_law 843 = .ok (.iconst 0, 1) := by decide +kernel
theorem dL_law_844 : decode cL_law 844 = .ok (.ireturn, 1) := by decide +kernel
theorem dL_law_845 : decode cL_law 845 = .ok (.aload_n 1, 1) := by decide +kernel
theorem dL_law_846 : decode cL_law 846 = .ok (.aload_n 0, 1) := by decide +kernel
theorem dL_law_847 : decode cL_law 847 = .ok (.iload_n 3, 1) := by decide +kernel
theorem dL_law_848 : decode cL_law 848 = .ok (.iconst 1, 1) := by decide +kernel
theorem dL_law_849 : decode cL_law 849 = .ok (.iadd, 1) := by decide +kernel
theorem dL_law_850 : decode cL_law 850 = .ok (.iaload, 1) := by decide +kernel
theorem dL_law_851 : decode cL_law 851 = .ok (.invokevirtual 79, 3) := by decide +kernel
theorem dL_law_854 : decode cL_law 854 = .ok (.aload_n 2, 1) := by decide +kernel
theorem dL_law_855 : decode cL_law 855 = .ok (.aload_n 0, 1) := by decide +kernel
theorem dL_law_856 : decode cL_law 856 = .ok (.iload_n 3, 1) := by decide +kernel
theorem dL_law_857 : decode cL_law 857 = .ok (.iconst 1, 1) := by decide +kernel
theorem dL_law_858 : decode cL_law 858 = .ok (.iadd, 1) := by decide +kernel
theorem dL_law_859 : decode cL_law 859 = .ok (.iaload, 1) := by decide +kernel
theorem dL_law_860 : decode cL_law 860 = .ok (.invokevirtual 82, 3) := by decide +kernel
theorem dL_law_863 : decode cL_law 863 = .ok (.if_icmp .eq 846, 3) := by decide +kernel
theorem dL_law_866 : decode cL_law 866 = .ok (.iconst 0, 1) := by decide +kernel
theorem dL_law_867 : decode cL_law 867 = .ok (.ireturn, 1) := by decide +kernel
theorem dL_law_868 : decode cL_law 868 = .ok (.aload_n 1, 1) := by decide +kernel
theorem dL_law_869 : decode cL_law 869 = .ok (.aload_n 0, 1) := by decide +kernel
theorem dL_law_870 : decode cL_law 870 = .ok (.iload_n 3, 1) := by decide +kernel
theorem dL_law_871 : decode cL_law 871 = .ok (.iconst 1, 1) := by decide +kernel
theorem dL_law_872 : decode cL_law 872 = .ok (.iadd, 1) := by decide +kernel
theorem dL_law_873 : decode cL_law 873 = .ok (.iaload, 1) := by decide +kernel
theorem dL_law_874 : decode cL_law 874 = .ok (.invokevirtual 83, 3) := by decide +kernel
theorem dL_law_877 : decode cL_law 877 = .ok (.aload_n 2, 1) := by decide +kernel
theorem dL_law_878 : decode cL_law 878 = .ok (.aload_n 0, 1) := by decide +kernel
theorem dL_law_879 : decode cL_law 879 = .ok (.iload_n 3, 1) := by decide +kernel
theorem dL_law_880 : decode cL_law 880 = .ok (.iconst 1, 1) := by decide +kernel
theorem dL_law_881 : decode cL_law 881 = .ok (.iadd, 1) := by decide +kernel
theorem dL_law_882 : decode cL_law 882 = .ok (.iaload, 1) := by decide +kernel
theorem dL_law_883 : decode cL_law 883 = .ok (.invokevirtual 86, 3) := by decide +kernel
theorem dL_law_886 : decode cL_law 886 = .ok (.if_icmp .eq 823, 3) := by decide +kernel
theorem dL_law_889 : decode cL_law 889 = .ok (.iconst 0, 1) := by decide +kernel
theorem dL_law_890 : decode cL_law 890 = .ok (.ireturn, 1) := by decide +kernel
theorem dL_law_891 : decode cL_law 891 = .ok (.aload_n 1, 1) := by decide +kernel
theorem dL_law_892 : decode cL_law 892 = .ok (.aload_n 0, 1) := by decide +kernel
theorem dL_law_893 : decode cL_law 893 = .ok (.iload_n 3, 1) := by decide +kernel
theorem dL_law_894 : decode cL_law 894 = .ok (.iconst 1, 1) := by decide +kernel
theorem dL_law_895 : decode cL_law 895 = .ok (.iadd, 1) := by decide +kernel
theorem dL_law_896 : decode cL_law 896 = .ok (.iaload, 1) := by decide +kernel
theorem dL_law_897 : decode cL_law 897 = .ok (.aload_n 0, 1) := by decide +kernel
theorem dL_law_898 : decode cL_law 898 = .ok (.iload_n 3, 1) := by decide +kernel
theorem dL_law_899 : decode cL_law 899 = .ok (.iconst 2, 1) := by decide +kernel
theorem dL_law_900 : decode cL_law 900 = .ok (.iadd, 1) := by decide +kernel
theorem dL_law_901 : decode cL_law 901 = .ok (.iaload, 1) := by decide +kernel
theorem dL_law_902 : decode cL_law 902 = .ok (.invokevirtual 87, 3) := by decide +kernel
theorem dL_law_905 : decode cL_law 905 = .ok (.aload_n 2, 1) := by decide +kernel
theorem dL_law_906 : decode cL_law 906 = .ok (.aload_n 0, 1) := by decide +kernel
theorem dL_law_907 : decode cL_law 907 = .ok (.iload_n 3, 1) := by decide +kernel
theorem dL_law_908 : decode cL_law 908 = .ok (.iconst 1, 1) := by decide +kernel
theorem dL_law_909 : decode cL_law 909 = .ok (.iadd, 1) := by decide +kernel
theorem dL_law_910 : decode cL_law 910 = .ok (.iaload, 1) := by decide +kernel
theorem dL_law_911 : decode cL_law 911 = .ok (.aload_n 0, 1) := by decide +kernel
theorem dL_law_912 : decode cL_law 912 = .ok (.iload_n 3, 1) := by decide +kernel
theorem dL_law_913 : decode cL_law 913 = .ok (.iconst 2, 1) := by decide +kernel
theorem dL_law_914 : decode cL_law 914 = .ok (.iadd, 1) := by decide +kernel
theorem dL_law_915 : decode cL_law 915 = .ok (.iaload, 1) := by decide +kernel
theorem dL_law_916 : decode cL_law 916 = .ok (.invokevirtual 90, 3) := by decide +kernel
theorem dL_law_919 : decode cL_law 919 = .ok (.if_icmp .eq 790, 3) := by decide +kernel
theorem dL_law_922 : decode cL_law 922 = .ok (.iconst 0, 1) := by decide +kernel
theorem dL_law_923 : decode cL_law 923 = .ok (.ireturn, 1) := by decide +kernel
theorem dL_law_924 : decode cL_law 924 = .ok (.aload_n 1, 1) := by decide +kernel
theorem dL_law_925 : decode cL_law 925 = .ok (.invokevirtual 91, 3) := by decide +kernel
theorem dL_law_928 : decode cL_law 928 = .ok (.aload_n 2, 1) := by decide +kernel
theorem dL_law_929 : decode cL_law 929 = .ok (.invokevirtual 95, 3) := by decide +kernel
theorem dL_law_932 : decode cL_law 932 = .ok (.if_icmp .eq 777, 3) := by decide +kernel
theorem dL_law_935 : decode cL_law 935 = .ok (.iconst 0, 1) := by decide +kernel
theorem dL_law_936 : decode cL_law 936 = .ok (.ireturn, 1) := by decide +kernel
theorem dL_law_937 : decode cL_law 937 = .ok (.aload_n 1, 1) := by decide +kernel
theorem dL_law_938 : decode cL_law 938 = .ok (.invokevirtual 96, 3) := by decide +kernel
theorem dL_law_941 : decode cL_law 941 = .ok (.aload_n 2, 1) := by decide +kernel
theorem dL_law_942 : decode cL_law 942 = .ok (.invokevirtual 99, 3) := by decide +kernel
theorem dL_law_945 : decode cL_law 945 = .ok (.if_icmp .eq 764, 3) := by decide +kernel
theorem dL_law_948 : decode cL_law 948 = .ok (.iconst 0, 1) := by decide +kernel
theorem dL_law_949 : decode cL_law 949 = .ok (.ireturn, 1) := by decide +kernel
theorem dL_law_950 : decode cL_law 950 = .ok (.aload_n 1, 1) := by decide +kernel
theorem dL_law_951 : decode cL_law 951 = .ok (.invokevirtual 100, 3) := by decide +kernel
theorem dL_law_954 : decode cL_law 954 = .ok (.aload_n 2, 1) := by decide +kernel
theorem dL_law_955 : decode cL_law 955 = .ok (.invokevirtual 103, 3) := by decide +kernel
theorem dL_law_958 : decode cL_law 958 = .ok (.if_icmp .eq 751, 3) := by decide +kernel
theorem dL_law_961 : decode cL_law 961 = .ok (.iconst 0, 1) := by decide +kernel
theorem dL_law_962 : decode cL_law 962 = .ok (.ireturn, 1) := by decide +kernel
theorem dL_law_963 : decode cL_law 963 = .ok (.aload_n 1, 1) := by decide +kernel
theorem dL_law_964 : decode cL_law 964 = .ok (.aload_n 0, 1) := by decide +kernel
theorem dL_law_965 : decode cL_law 965 = .ok (.iload_n 3, 1) := by decide +kernel
theorem dL_law_966 : decode cL_law 966 = .ok (.iconst 1, 1) := by decide +kernel
theorem dL_law_967 : decode cL_law 967 = .ok (.iadd, 1) := by decide +kernel
theorem dL_law_968 : decode cL_law 968 = .ok (.iaload, 1) := by decide +kernel
theorem dL_law_969 : decode cL_law 969 = .ok (.invokevirtual 104, 3) := by decide +kernel
theorem dL_law_972 : decode cL_law 972 = .ok (.aload_n 2, 1) := by decide +kernel
theorem dL_law_973 : decode cL_law 973 = .ok (.aload_n 0, 1) := by decide +kernel
theorem dL_law_974 : decode cL_law 974 = .ok (.iload_n 3, 1) := by decide +kernel
theorem dL_law_975 : decode cL_law 975 = .ok (.iconst 1, 1) := by decide +kernel
theorem dL_law_976 : decode cL_law 976 = .ok (.iadd, 1) := by decide +kernel
theorem dL_law_977 : decode cL_law 977 = .ok (.iaload, 1) := by decide +kernel
theorem dL_law_978 : decode cL_law 978 = .ok (.invokevirtual 107, 3) := by decide +kernel
theorem dL_law_981 : decode cL_law 981 = .ok (.if_icmp .eq 728, 3) := by decide +kernel
theorem dL_law_984 : decode cL_law 984 = .ok (.iconst 0, 1) := by decide +kernel
theorem dL_law_985 : decode cL_law 985 = .ok (.ireturn, 1) := by decide +kernel
theorem dL_law_986 : decode cL_law 986 = .ok (.aload_n 1, 1) := by decide +kernel
theorem dL_law_987 : decode cL_law 987 = .ok (.aload_n 0, 1) := by decide +kernel
theorem dL_law_988 : decode cL_law 988 = .ok (.iload_n 3, 1) := by decide +kernel
theorem dL_law_989 : decode cL_law 989 = .ok (.iconst 1, 1) := by decide +kernel
theorem dL_law_990 : decode cL_law 990 = .ok (.iadd, 1) := by decide +kernel
theorem dL_law_991 : decode cL_law 991 = .ok (.iaload, 1) := by decide +kernel
theorem dL_law_992 : decode cL_law 992 = .ok (.invokevirtual 108, 3) := by decide +kernel
theorem dL_law_995 : decode cL_law 995 = .ok (.aload_n 2, 1) := by decide +kernel
theorem dL_law_996 : decode cL_law 996 = .ok (.aload_n 0, 1) := by decide +kernel
theorem dL_law_997 : decode cL_law 997 = .ok (.iload_n 3, 1) := by decide +kernel
theorem dL_law_998 : decode cL_law 998 = .ok (.iconst 1, 1) := by decide +kernel
theorem dL_law_999 : decode cL_law 999 = .ok (.iadd, 1) := by decide +kernel
theorem dL_law_1000 : decode cL_law 1000 = .ok (.iaload, 1) := by decide +kernel
theorem dL_law_1001 : decode cL_law 1001 = .ok (.invokevirtual 111, 3) := by decide +kernel
theorem dL_law_1004 : decode cL_law 1004 = .ok (.if_icmp .eq 705, 3) := by decide +kernel
theorem dL_law_1007 : decode cL_law 1007 = .ok (.iconst 0, 1) := by decide +kernel
theorem dL_law_1008 : decode cL_law 1008 = .ok (.ireturn, 1) := by decide +kernel
theorem dL_law_1009 : decode cL_law 1009 = .ok (.aload_n 1, 1) := by decide +kernel
theorem dL_law_1010 : decode cL_law 1010 = .ok (.aload_n 0, 1) := by decide +kernel
theorem dL_law_1011 : decode cL_law 1011 = .ok (.iload_n 3, 1) := by decide +kernel
theorem dL_law_1012 : decode cL_law 1012 = .ok (.iconst 1, 1) := by decide +kernel
theorem dL_law_1013 : decode cL_law 1013 = .ok (.iadd, 1) := by decide +kernel
theorem dL_law_1014 : decode cL_law 1014 = .ok (.iaload, 1) := by decide +kernel
theorem dL_law_1015 : decode cL_law 1015 = .ok (.aload_n 0, 1) := by decide +kernel
theorem dL_law_1016 : decode cL_law 1016 = .ok (.iload_n 3, 1) := by decide +kernel
theorem dL_law_1017 : decode cL_law 1017 = .ok (.iconst 2, 1) := by decide +kernel
theorem dL_law_1018 : decode cL_law 1018 = .ok (.iadd, 1) := by decide +kernel
theorem dL_law_1019 : decode cL_law 1019 = .ok (.iaload, 1) := by decide +kernel
theorem dL_law_1020 : decode cL_law 1020 = .ok (.aload_n 0, 1) := by decide +kernel
theorem dL_law_1021 : decode cL_law 1021 = .ok (.iload_n 3, 1) := by decide +kernel
theorem dL_law_1022 : decode cL_law 1022 = .ok (.iconst 3, 1) := by decide +kernel
theorem dL_law_1023 : decode cL_law 1023 = .ok (.iadd, 1) := by decide +kernel
theorem dL_law_1024 : decode cL_law 1024 = .ok (.iaload, 1) := by decide +kernel
theorem dL_law_1025 : decode cL_law 1025 = .ok (.invokevirtual 112, 3) := by decide +kernel
theorem dL_law_1028 : decode cL_law 1028 = .ok (.aload_n 2, 1) := by decide +kernel
theorem dL_law_1029 : decode cL_law 1029 = .ok (.aload_n 0, 1) := by decide +kernel
theorem dL_law_1030 : decode cL_law 1030 = .ok (.iload_n 3, 1) := by decide +kernel
theorem dL_law_1031 : decode cL_law 1031 = .ok (.iconst 1, 1) := by decide +kernel
theorem dL_law_1032 : decode cL_law 1032 = .ok (.iadd, 1) := by decide +kernel
theorem dL_law_1033 : decode cL_law 1033 = .ok (.iaload, 1) := by decide +kernel
theorem dL_law_1034 : decode cL_law 1034 = .ok (.aload_n 0, 1) := by decide +kernel
theorem dL_law_1035 : decode cL_law 1035 = .ok (.iload_n 3, 1) := by decide +kernel
theorem dL_law_1036 : decode cL_law 1036 = .ok (.iconst 2, 1) := by decide +kernel
theorem dL_law_1037 : decode cL_law 1037 = .ok (.iadd, 1) := by decide +kernel
theorem dL_law_1038 : decode cL_law 1038 = .ok (.iaload, 1) := by decide +kernel
theorem dL_law_1039 : decode cL_law 1039 = .ok (.aload_n 0, 1) := by decide +kernel
theorem dL_law_1040 : decode cL_law 1040 = .ok (.iload_n 3, 1) := by decide +kernel
theorem dL_law_1041 : decode cL_law 1041 = .ok (.iconst 3, 1) := by decide +kernel
theorem dL_law_1042 : decode cL_law 1042 = .ok (.iadd, 1) := by decide +kernel
theorem dL_law_1043 : decode cL_law 1043 = .ok (.iaload, 1) := by decide +kernel
theorem dL_law_1044 : decode cL_law 1044 = .ok (.invokevirtual 115, 3) := by decide +kernel
theorem dL_law_1047 : decode cL_law 1047 = .ok (.if_icmp .eq 662, 3) := by decide +kernel
theorem dL_law_1050 : decode cL_law 1050 = .ok (.iconst 0, 1) := by decide +kernel
theorem dL_law_1051 : decode cL_law 1051 = .ok (.ireturn, 1) := by decide +kernel
theorem dL_law_1052 : decode cL_law 1052 = .ok (.aload_n 1, 1) := by decide +kernel
theorem dL_law_1053 : decode cL_law 1053 = .ok (.aload_n 0, 1) := by decide +kernel
theorem dL_law_1054 : decode cL_law 1054 = .ok (.iload_n 3, 1) := by decide +kernel
theorem dL_law_1055 : decode cL_law 1055 = .ok (.iconst 1, 1) := by decide +kernel
theorem dL_law_1056 : decode cL_law 1056 = .ok (.iadd, 1) := by decide +kernel
theorem dL_law_1057 : decode cL_law 1057 = .ok (.iaload, 1) := by decide +kernel
theorem dL_law_1058 : decode cL_law 1058 = .ok (.aload_n 0, 1) := by decide +kernel
theorem dL_law_1059 : decode cL_law 1059 = .ok (.iload_n 3, 1) := by decide +kernel
theorem dL_law_1060 : decode cL_law 1060 = .ok (.iconst 2, 1) := by decide +kernel
theorem dL_law_1061 : decode cL_law 1061 = .ok (.iadd, 1) := by decide +kernel
theorem dL_law_1062 : decode cL_law 1062 = .ok (.iaload, 1) := by decide +kernel
theorem dL_law_1063 : decode cL_law 1063 = .ok (.invokevirtual 116, 3) := by decide +kernel
theorem dL_law_1066 : decode cL_law 1066 = .ok (.aload_n 2, 1) := by decide +kernel
theorem dL_law_1067 : decode cL_law 1067 = .ok (.aload_n 0, 1) := by decide +kernel
theorem dL_law_1068 : decode cL_law 1068 = .ok (.iload_n 3, 1) := by decide +kernel
theorem dL_law_1069 : decode cL_law 1069 = .ok (.iconst 1, 1) := by decide +kernel
theorem dL_law_1070 : decode cL_law 1070 = .ok (.iadd, 1) := by decide +kernel
theorem dL_law_1071 : decode cL_law 1071 = .ok (.iaload, 1) := by decide +kernel
theorem dL_law_1072 : decode cL_law 1072 = .ok (.aload_n 0, 1) := by decide +kernel
theorem dL_law_1073 : decode cL_law 1073 = .ok (.iload_n 3, 1) := by decide +kernel
theorem dL_law_1074 : decode cL_law 1074 = .ok (.iconst 2, 1) := by decide +kernel
theorem dL_law_1075 : decode cL_law 1075 = .ok (.iadd, 1) := by decide +kernel
theorem dL_law_1076 : decode cL_law 1076 = .ok (.iaload, 1) := by decide +kernel
theorem dL_law_1077 : decode cL_law 1077 = .ok (.invokevirtual 119, 3) := by decide +kernel
theorem dL_law_1080 : decode cL_law 1080 = .ok (.if_icmp .eq 629, 3) := by decide +kernel
theorem dL_law_1083 : decode cL_law 1083 = .ok (.iconst 0, 1) := by decide +kernel
theorem dL_law_1084 : decode cL_law 1084 = .ok (.ireturn, 1) := by decide +kernel
theorem dL_law_1085 : decode cL_law 1085 = .ok (.aload_n 1, 1) := by decide +kernel
theorem dL_law_1086 : decode cL_law 1086 = .ok (.aload_n 0, 1) := by decide +kernel
theorem dL_law_1087 : decode cL_law 1087 = .ok (.iload_n 3, 1) := by decide +kernel
theorem dL_law_1088 : decode cL_law 1088 = .ok (.iconst 1, 1) := by decide +kernel
theorem dL_law_1089 : decode cL_law 1089 = .ok (.iadd, 1) := by decide +kernel
theorem dL_law_1090 : decode cL_law 1090 = .ok (.iaload, 1) := by decide +kernel
theorem dL_law_1091 : decode cL_law 1091 = .ok (.invokevirtual 120, 3) := by decide +kernel
theorem dL_law_1094 : decode cL_law 1094 = .ok (.aload_n 2, 1) := by decide +kernel
theorem dL_law_1095 : decode cL_law 1095 = .ok (.aload_n 0, 1) := by decide +kernel
theorem dL_law_1096 : decode cL_law 1096 = .ok (.iload_n 3, 1) := by decide +kernel
theorem dL_law_1097 : decode cL_law 1097 = .ok (.iconst 1, 1) := by decide +kernel
theorem dL_law_1098 : decode cL_law 1098 = .ok (.iadd, 1) := by decide +kernel
theorem dL_law_1099 : decode cL_law 1099 = .ok (.iaload, 1) := by decide +kernel
theorem dL_law_1100 : decode cL_law 1100 = .ok (.invokevirtual 123, 3) := by decide +kernel
theorem dL_law_1103 : decode cL_law 1103 = .ok (.if_icmp .eq 606, 3) := by decide +kernel
theorem dL_law_1106 : decode cL_law 1106 = .ok (.iconst 0, 1) := by decide +kernel
theorem dL_law_1107 : decode cL_law 1107 = .ok (.ireturn, 1) := by decide +kernel
theorem dL_law_1108 : decode cL_law 1108 = .ok (.aload_n 1, 1) := by decide +kernel
theorem dL_law_1109 : decode cL_law 1109 = .ok (.invokevirtual 124, 3) := by decide +kernel
theorem dL_law_1112 : decode cL_law 1112 = .ok (.aload_n 2, 1) := by decide +kernel
theorem dL_law_1113 : decode cL_law 1113 = .ok (.invokevirtual 127, 3) := by decide +kernel
theorem dL_law_1116 : decode cL_law 1116 = .ok (.if_icmp .eq 593, 3) := by decide +kernel
theorem dL_law_1119 : decode cL_law 1119 = .ok (.iconst 0, 1) := by decide +kernel
theorem dL_law_1120 : decode cL_law 1120 = .ok (.ireturn, 1) := by decide +kernel
theorem dL_law_1121 : decode cL_law 1121 = .ok (.aload_n 1, 1) := by decide +kernel
theorem dL_law_1122 : decode cL_law 1122 = .ok (.aload_n 0, 1) := by decide +kernel
theorem dL_law_1123 : decode cL_law 1123 = .ok (.iload_n 3, 1) := by decide +kernel
theorem dL_law_1124 : decode cL_law 1124 = .ok (.iconst 1, 1) := by decide +kernel
theorem dL_law_1125 : decode cL_law 1125 = .ok (.iadd, 1) := by decide +kernel
theorem dL_law_1126 : decode cL_law 1126 = .ok (.iaload, 1) := by decide +kernel
theorem dL_law_1127 : decode cL_law 1127 = .ok (.aload_n 0, 1) := by decide +kernel
theorem dL_law_1128 : decode cL_law 1128 = .ok (.iload_n 3, 1) := by decide +kernel
theorem dL_law_1129 : decode cL_law 1129 = .ok (.iconst 2, 1) := by decide +kernel
theorem dL_law_1130 : decode cL_law 1130 = .ok (.iadd, 1) := by decide +kernel
theorem dL_law_1131 : decode cL_law 1131 = .ok (.iaload, 1) := by decide +kernel
theorem dL_law_1132 : decode cL_law 1132 = .ok (.invokevirtual 128, 3) := by decide +kernel
theorem dL_law_1135 : decode cL_law 1135 = .ok (.aload_n 2, 1) := by decide +kernel
theorem dL_law_1136 : decode cL_law 1136 = .ok (.aload_n 0, 1) := by decide +kernel
theorem dL_law_1137 : decode cL_law 1137 = .ok (.iload_n 3, 1) := by decide +kernel
theorem dL_law_1138 : decode cL_law 1138 = .ok (.iconst 1, 1) := by decide +kernel
theorem dL_law_1139 : decode cL_law 1139 = .ok (.iadd, 1) := by decide +kernel
theorem dL_law_1140 : decode cL_law 1140 = .ok (.iaload, 1) := by decide +kernel
theorem dL_law_1141 : decode cL_law 1141 = .ok (.aload_n 0, 1) := by decide +kernel
theorem dL_law_1142 : decode cL_law 1142 = .ok (.iload_n 3, 1) := by decide +kernel
theorem dL_law_1143 : decode cL_law 1143 = .ok (.iconst 2, 1) := by decide +kernel
theorem dL_law_1144 : decode cL_law 1144 = .ok (.iadd, 1) := by decide +kernel
theorem dL_law_1145 : decode cL_law 1145 = .ok (.iaload, 1) := by decide +kernel
theorem dL_law_1146 : decode cL_law 1146 = .ok (.invokevirtual 131, 3) := by decide +kernel
theorem dL_law_1149 : decode cL_law 1149 = .ok (.if_icmp .eq 560, 3) := by decide +kernel
theorem dL_law_1152 : decode cL_law 1152 = .ok (.iconst 0, 1) := by decide +kernel
theorem dL_law_1153 : decode cL_law 1153 = .ok (.ireturn, 1) := by decide +kernel
theorem dL_law_1154 : decode cL_law 1154 = .ok (.aload_n 1, 1) := by decide +kernel
theorem dL_law_1155 : decode cL_law 1155 = .ok (.aload_n 0, 1) := by decide +kernel
theorem dL_law_1156 : decode cL_law 1156 = .ok (.iload_n 3, 1) := by decide +kernel
theorem dL_law_1157 : decode cL_law 1157 = .ok (.iconst 1, 1) := by decide +kernel
theorem dL_law_1158 : decode cL_law 1158 = .ok (.iadd, 1) := by decide +kernel
theorem dL_law_1159 : decode cL_law 1159 = .ok (.iaload, 1) := by decide +kernel
theorem dL_law_1160 : decode cL_law 1160 = .ok (.aload_n 0, 1) := by decide +kernel
theorem dL_law_1161 : decode cL_law 1161 = .ok (.iload_n 3, 1) := by decide +kernel
theorem dL_law_1162 : decode cL_law 1162 = .ok (.iconst 2, 1) := by decide +kernel
theorem dL_law_1163 : decode cL_law 1163 = .ok (.iadd, 1) := by decide +kernel
theorem dL_law_1164 : decode cL_law 1164 = .ok (.iaload, 1) := by decide +kernel
theorem dL_law_1165 : decode cL_law 1165 = .ok (.invokevirtual 132, 3) := by decide +kernel
theorem dL_law_1168 : decode cL_law 1168 = .ok (.aload_n 2, 1) := by decide +kernel
theorem dL_law_1169 : decode cL_law 1169 = .ok (.aload_n 0, 1) := by decide +kernel
theorem dL_law_1170 : decode cL_law 1170 = .ok (.iload_n 3, 1) := by decide +kernel
theorem dL_law_1171 : decode cL_law 1171 = .ok (.iconst 1, 1) := by decide +kernel
theorem dL_law_1172 : decode cL_law 1172 = .ok (.iadd, 1) := by decide +kernel
theorem dL_law_1173 : decode cL_law 1173 = .ok (.iaload, 1) := by decide +kernel
theorem dL_law_1174 : decode cL_law 1174 = .ok (.aload_n 0, 1) := by decide +kernel
theorem dL_law_1175 : decode cL_law 1175 = .ok (.iload_n 3, 1) := by decide +kernel
theorem dL_law_1176 : decode cL_law 1176 = .ok (.iconst 2, 1) := by decide +kernel
theorem dL_law_1177 : decode cL_law 1177 = .ok (.iadd, 1) := by decide +kernel
theorem dL_law_1178 : decode cL_law 1178 = .ok (.iaload, 1) := by decide +kernel
theorem dL_law_1179 : decode cL_law 1179 = .ok (.invokevirtual 135, 3) := by decide +kernel
theorem dL_law_1182 : decode cL_law 1182 = .ok (.if_icmp .eq 527, 3) := by decide +kernel
theorem dL_law_1185 : decode cL_law 1185 = .ok (.iconst 0, 1) := by decide +kernel
theorem dL_law_1186 : decode cL_law 1186 = .ok (.ireturn, 1) := by decide +kernel
theorem dL_law_1187 : decode cL_law 1187 = .ok (.aload_n 1, 1) := by decide +kernel
theorem dL_law_1188 : decode cL_law 1188 = .ok (.aload_n 0, 1) := by decide +kernel
theorem dL_law_1189 : decode cL_law 1189 = .ok (.iload_n 3, 1) := by decide +kernel
theorem dL_law_1190 : decode cL_law 1190 = .ok (.iconst 1, 1) := by decide +kernel
theorem dL_law_1191 : decode cL_law 1191 = .ok (.iadd, 1) := by decide +kernel
theorem dL_law_1192 : decode cL_law 1192 = .ok (.iaload, 1) := by decide +kernel
theorem dL_law_1193 : decode cL_law 1193 = .ok (.invokevirtual 136, 3) := by decide +kernel
theorem dL_law_1196 : decode cL_law 1196 = .ok (.aload_n 2, 1) := by decide +kernel
theorem dL_law_1197 : decode cL_law 1197 = .ok (.aload_n 0, 1) := by decide +kernel
theorem dL_law_1198 : decode cL_law 1198 = .ok (.iload_n 3, 1) := by decide +kernel
theorem dL_law_1199 : decode cL_law 1199 = .ok (.iconst 1, 1) := by decide +kernel
theorem dL_law_1200 : decode cL_law 1200 = .ok (.iadd, 1) := by decide +kernel
theorem dL_law_1201 : decode cL_law 1201 = .ok (.iaload, 1) := by decide +kernel
theorem dL_law_1202 : decode cL_law 1202 = .ok (.invokevirtual 139, 3) := by decide +kernel
theorem dL_law_1205 : decode cL_law 1205 = .ok (.if_icmp .eq 504, 3) := by decide +kernel
theorem dL_law_1208 : decode cL_law 1208 = .ok (.iconst 0, 1) := by decide +kernel
theorem dL_law_1209 : decode cL_law 1209 = .ok (.ireturn, 1) := by decide +kernel
theorem dL_law_1210 : decode cL_law 1210 = .ok (.aload_n 1, 1) := by decide +kernel
theorem dL_law_1211 : decode cL_law 1211 = .ok (.aload_n 0, 1) := by decide +kernel
theorem dL_law_1212 : decode cL_law 1212 = .ok (.iload_n 3, 1) := by decide +kernel
theorem dL_law_1213 : decode cL_law 1213 = .ok (.iconst 1, 1) := by decide +kernel
theorem dL_law_1214 : decode cL_law 1214 = .ok (.iadd, 1) := by decide +kernel
theorem dL_law_1215 : decode cL_law 1215 = .ok (.iaload, 1) := by decide +kernel
theorem dL_law_1216 : decode cL_law 1216 = .ok (.aload_n 0, 1) := by decide +kernel
theorem dL_law_1217 : decode cL_law 1217 = .ok (.iload_n 3, 1) := by decide +kernel
theorem dL_law_1218 : decode cL_law 1218 = .ok (.iconst 2, 1) := by decide +kernel
theorem dL_law_1219 : decode cL_law 1219 = .ok (.iadd, 1) := by decide +kernel
theorem dL_law_1220 : decode cL_law 1220 = .ok (.iaload, 1) := by decide +kernel
theorem dL_law_1221 : decode cL_law 1221 = .ok (.invokevirtual 140, 3) := by decide +kernel
theorem dL_law_1224 : decode cL_law 1224 = .ok (.aload_n 2, 1) := by decide +kernel
theorem dL_law_1225 : decode cL_law 1225 = .ok (.aload_n 0, 1) := by decide +kernel
theorem dL_law_1226 : decode cL_law 1226 = .ok (.iload_n 3, 1) := by decide +kernel
theorem dL_law_1227 : decode cL_law 1227 = .ok (.iconst 1, 1) := by decide +kernel
theorem dL_law_1228 : decode cL_law 1228 = .ok (.iadd, 1) := by decide +kernel
theorem dL_law_1229 : decode cL_law 1229 = .ok (.iaload, 1) := by decide +kernel
theorem dL_law_1230 : decode cL_law 1230 = .ok (.aload_n 0, 1) := by decide +kernel
theorem dL_law_1231 : decode cL_law 1231 = .ok (.iload_n 3, 1) := by decide +kernel
theorem dL_law_1232 : decode cL_law 1232 = .ok (.iconst 2, 1) := by decide +kernel
theorem dL_law_1233 : decode cL_law 1233 = .ok (.iadd, 1) := by decide +kernel
theorem dL_law_1234 : decode cL_law 1234 = .ok (.iaload, 1) := by decide +kernel
theorem dL_law_1235 : decode cL_law 1235 = .ok (.invokevirtual 143, 3) := by decide +kernel
theorem dL_law_1238 : decode cL_law 1238 = .ok (.if_icmp .eq 471, 3) := by decide +kernel
theorem dL_law_1241 : decode cL_law 1241 = .ok (.iconst 0, 1) := by decide +kernel
theorem dL_law_1242 : decode cL_law 1242 = .ok (.ireturn, 1) := by decide +kernel
theorem dL_law_1243 : decode cL_law 1243 = .ok (.aload_n 1, 1) := by decide +kernel
theorem dL_law_1244 : decode cL_law 1244 = .ok (.invokevirtual 144, 3) := by decide +kernel
theorem dL_law_1247 : decode cL_law 1247 = .ok (.aload_n 2, 1) := by decide +kernel
theorem dL_law_1248 : decode cL_law 1248 = .ok (.invokevirtual 147, 3) := by decide +kernel
theorem dL_law_1251 : decode cL_law 1251 = .ok (.if_icmp .eq 458, 3) := by decide +kernel
theorem dL_law_1254 : decode cL_law 1254 = .ok (.iconst 0, 1) := by decide +kernel
theorem dL_law_1255 : decode cL_law 1255 = .ok (.ireturn, 1) := by decide +kernel
theorem dL_law_1256 : decode cL_law 1256 = .ok (.aload_n 1, 1) := by decide +kernel
theorem dL_law_1257 : decode cL_law 1257 = .ok (.invokevirtual 148, 3) := by decide +kernel
theorem dL_law_1260 : decode cL_law 1260 = .ok (.aload_n 2, 1) := by decide +kernel
theorem dL_law_1261 : decode cL_law 1261 = .ok (.invokevirtual 151, 3) := by decide +kernel
theorem dL_law_1264 : decode cL_law 1264 = .ok (.if_icmp .eq 445, 3) := by decide +kernel
theorem dL_law_1267 : decode cL_law 1267 = .ok (.iconst 0, 1) := by decide +kernel
theorem dL_law_1268 : decode cL_law 1268 = .ok (.ireturn, 1) := by decide +kernel
theorem dL_law_1269 : decode cL_law 1269 = .ok (.aload_n 1, 1) := by decide +kernel
theorem dL_law_1270 : decode cL_law 1270 = .ok (.aload_n 0, 1) := by decide +kernel
theorem dL_law_1271 : decode cL_law 1271 = .ok (.iload_n 3, 1) := by decide +kernel
theorem dL_law_1272 : decode cL_law 1272 = .ok (.iconst 1, 1) := by decide +kernel
theorem dL_law_1273 : decode cL_law 1273 = .ok (.iadd, 1) := by decide +kernel
theorem dL_law_1274 : decode cL_law 1274 = .ok (.iaload, 1) := by decide +kernel
theorem dL_law_1275 : decode cL_law 1275 = .ok (.invokevirtual 152, 3) := by decide +kernel
theorem dL_law_1278 : decode cL_law 1278 = .ok (.aload_n 2, 1) := by decide +kernel
theorem dL_law_1279 : decode cL_law 1279 = .ok (.aload_n 0, 1) := by decide +kernel
theorem dL_law_1280 : decode cL_law 1280 = .ok (.iload_n 3, 1) := by decide +kernel
theorem dL_law_1281 : decode cL_law 1281 = .ok (.iconst 1, 1) := by decide +kernel
theorem dL_law_1282 : decode cL_law 1282 = .ok (.iadd, 1) := by decide +kernel
theorem dL_law_1283 : decode cL_law 1283 = .ok (.iaload, 1) := by decide +kernel
theorem dL_law_1284 : decode cL_law 1284 = .ok (.invokevirtual 155, 3) := by decide +kernel
theorem dL_law_1287 : decode cL_law 1287 = .ok (.if_icmp .eq 422, 3) := by decide +kernel
theorem dL_law_1290 : decode cL_law 1290 = .ok (.iconst 0, 1) := by decide +kernel
theorem dL_law_1291 : decode cL_law 1291 = .ok (.ireturn, 1) := by decide +kernel
theorem dL_law_1292 : decode cL_law 1292 = .ok (.aload_n 1, 1) := by decide +kernel
theorem dL_law_1293 : decode cL_law 1293 = .ok (.aload_n 0, 1) := by decide +kernel
theorem dL_law_1294 : decode cL_law 1294 = .ok (.iload_n 3, 1) := by decide +kernel
theorem dL_law_1295 : decode cL_law 1295 = .ok (.iconst 1, 1) := by decide +kernel
theorem dL_law_1296 : decode cL_law 1296 = .ok (.iadd, 1) := by decide +kernel
theorem dL_law_1297 : decode cL_law 1297 = .ok (.iaload, 1) := by decide +kernel
theorem dL_law_1298 : decode cL_law 1298 = .ok (.aload_n 0, 1) := by decide +kernel
theorem dL_law_1299 : decode cL_law 1299 = .ok (.iload_n 3, 1) := by decide +kernel
theorem dL_law_1300 : decode cL_law 1300 = .ok (.iconst 2, 1) := by decide +kernel
theorem dL_law_1301 : decode cL_law 1301 = .ok (.iadd, 1) := by decide +kernel
theorem dL_law_1302 : decode cL_law 1302 = .ok (.iaload, 1) := by decide +kernel
theorem dL_law_1303 : decode cL_law 1303 = .ok (.invokevirtual 156, 3) := by decide +kernel
theorem dL_law_1306 : decode cL_law 1306 = .ok (.aload_n 2, 1) := by decide +kernel
theorem dL_law_1307 : decode cL_law 1307 = .ok (.aload_n 0, 1) := by decide +kernel
theorem dL_law_1308 : decode cL_law 1308 = .ok (.iload_n 3, 1) := by decide +kernel
theorem dL_law_1309 : decode cL_law 1309 = .ok (.iconst 1, 1) := by decide +kernel
theorem dL_law_1310 : decode cL_law 1310 = .ok (.iadd, 1) := by decide +kernel
theorem dL_law_1311 : decode cL_law 1311 = .ok (.iaload, 1) := by decide +kernel
theorem dL_law_1312 : decode cL_law 1312 = .ok (.aload_n 0, 1) := by decide +kernel
theorem dL_law_1313 : decode cL_law 1313 = .ok (.iload_n 3, 1) := by decide +kernel
theorem dL_law_1314 : decode cL_law 1314 = .ok (.iconst 2, 1) := by decide +kernel
theorem dL_law_1315 : decode cL_law 1315 = .ok (.iadd, 1) := by decide +kernel
theorem dL_law_1316 : decode cL_law 1316 = .ok (.iaload, 1) := by decide +kernel
theorem dL_law_1317 : decode cL_law 1317 = .ok (.invokevirtual 159, 3) := by decide +kernel
theorem dL_law_1320 : decode cL_law 1320 = .ok (.if_icmp .eq 389, 3) := by decide +kernel
theorem dL_law_1323 : decode cL_law 1323 = .ok (.iconst 0, 1) := by decide +kernel
theorem dL_law_1324 : decode cL_law 1324 = .ok (.ireturn, 1) := by decide +kernel
theorem dL_law_1325 : decode cL_law 1325 = .ok (.aload_n 1, 1) := by decide +kernel
theorem dL_law_1326 : decode cL_law 1326 = .ok (.invokevirtual 160, 3) := by decide +kernel
theorem dL_law_1329 : decode cL_law 1329 = .ok (.aload_n 2, 1) := by decide +kernel
theorem dL_law_1330 : decode cL_law 1330 = .ok (.invokevirtual 163, 3) := by decide +kernel
theorem dL_law_1333 : decode cL_law 1333 = .ok (.if_icmp .eq 376, 3) := by decide +kernel
theorem dL_law_1336 : decode cL_law 1336 = .ok (.iconst 0, 1) := by decide +kernel
theorem dL_law_1337 : decode cL_law 1337 = .ok (.ireturn, 1) := by decide +kernel
theorem dL_law_1338 : decode cL_law 1338 = .ok (.aload_n 1, 1) := by decide +kernel
theorem dL_law_1339 : decode cL_law 1339 = .ok (.aload_n 0, 1) := by decide +kernel
theorem dL_law_1340 : decode cL_law 1340 = .ok (.iload_n 3, 1) := by decide +kernel
theorem dL_law_1341 : decode cL_law 1341 = .ok (.iconst 1, 1) := by decide +kernel
theorem dL_law_1342 : decode cL_law 1342 = .ok (.iadd, 1) := by decide +kernel
theorem dL_law_1343 : decode cL_law 1343 = .ok (.iaload, 1) := by decide +kernel
theorem dL_law_1344 : decode cL_law 1344 = .ok (.invokevirtual 164, 3) := by decide +kernel
theorem dL_law_1347 : decode cL_law 1347 = .ok (.aload_n 2, 1) := by decide +kernel
theorem dL_law_1348 : decode cL_law 1348 = .ok (.aload_n 0, 1) := by decide +kernel
theorem dL_law_1349 : decode cL_law 1349 = .ok (.iload_n 3, 1) := by decide +kernel
theorem dL_law_1350 : decode cL_law 1350 = .ok (.iconst 1, 1) := by decide +kernel
theorem dL_law_1351 : decode cL_law 1351 = .ok (.iadd, 1) := by decide +kernel
theorem dL_law_1352 : decode cL_law 1352 = .ok (.iaload, 1) := by decide +kernel
theorem dL_law_1353 : decode cL_law 1353 = .ok (.invokevirtual 167, 3) := by decide +kernel
theorem dL_law_1356 : decode cL_law 1356 = .ok (.if_icmp .eq 353, 3) := by decide +kernel
theorem dL_law_1359 : decode cL_law 1359 = .ok (.iconst 0, 1) := by decide +kernel
theorem dL_law_1360 : decode cL_law 1360 = .ok (.ireturn, 1) := by decide +kernel
theorem dL_law_1361 : decode cL_law 1361 = .ok (.aload_n 1, 1) := by decide +kernel
theorem dL_law_1362 : decode cL_law 1362 = .ok (.aload_n 0, 1) := by decide +kernel
theorem dL_law_1363 : decode cL_law 1363 = .ok (.iload_n 3, 1) := by decide +kernel
theorem dL_law_1364 : decode cL_law 1364 = .ok (.iconst 1, 1) := by decide +kernel
theorem dL_law_1365 : decode cL_law 1365 = .ok (.iadd, 1) := by decide +kernel
theorem dL_law_1366 : decode cL_law 1366 = .ok (.iaload, 1) := by decide +kernel
theorem dL_law_1367 : decode cL_law 1367 = .ok (.aload_n 0, 1) := by decide +kernel
theorem dL_law_1368 : decode cL_law 1368 = .ok (.iload_n 3, 1) := by decide +kernel
theorem dL_law_1369 : decode cL_law 1369 = .ok (.iconst 2, 1) := by decide +kernel
theorem dL_law_1370 : decode cL_law 1370 = .ok (.iadd, 1) := by decide +kernel
theorem dL_law_1371 : decode cL_law 1371 = .ok (.iaload, 1) := by decide +kernel
theorem dL_law_1372 : decode cL_law 1372 = .ok (.aload_n 0, 1) := by decide +kernel
theorem dL_law_1373 : decode cL_law 1373 = .ok (.iload_n 3, 1) := by decide +kernel
theorem dL_law_1374 : decode cL_law 1374 = .ok (.iconst 3, 1) := by decide +kernel
theorem dL_law_1375 : decode cL_law 1375 = .ok (.iadd, 1) := by decide +kernel
theorem dL_law_1376 : decode cL_law 1376 = .ok (.iaload, 1) := by decide +kernel
theorem dL_law_1377 : decode cL_law 1377 = .ok (.aload_n 0, 1) := by decide +kernel
theorem dL_law_1378 : decode cL_law 1378 = .ok (.iload_n 3, 1) := by decide +kernel
theorem dL_law_1379 : decode cL_law 1379 = .ok (.iconst 4, 1) := by decide +kernel
theorem dL_law_1380 : decode cL_law 1380 = .ok (.iadd, 1) := by decide +kernel
theorem dL_law_1381 : decode cL_law 1381 = .ok (.iaload, 1) := by decide +kernel
theorem dL_law_1382 : decode cL_law 1382 = .ok (.aload_n 0, 1) := by decide +kernel
theorem dL_law_1383 : decode cL_law 1383 = .ok (.iload_n 3, 1) := by decide +kernel
theorem dL_law_1384 : decode cL_law 1384 = .ok (.iconst 5, 1) := by decide +kernel
theorem dL_law_1385 : decode cL_law 1385 = .ok (.iadd, 1) := by decide +kernel
theorem dL_law_1386 : decode cL_law 1386 = .ok (.iaload, 1) := by decide +kernel
theorem dL_law_1387 : decode cL_law 1387 = .ok (.invokevirtual 168, 3) := by decide +kernel
theorem dL_law_1390 : decode cL_law 1390 = .ok (.aload_n 2, 1) := by decide +kernel
theorem dL_law_1391 : decode cL_law 1391 = .ok (.aload_n 0, 1) := by decide +kernel
theorem dL_law_1392 : decode cL_law 1392 = .ok (.iload_n 3, 1) := by decide +kernel
theorem dL_law_1393 : decode cL_law 1393 = .ok (.iconst 1, 1) := by decide +kernel
theorem dL_law_1394 : decode cL_law 1394 = .ok (.iadd, 1) := by decide +kernel
theorem dL_law_1395 : decode cL_law 1395 = .ok (.iaload, 1) := by decide +kernel
theorem dL_law_1396 : decode cL_law 1396 = .ok (.aload_n 0, 1) := by decide +kernel
theorem dL_law_1397 : decode cL_law 1397 = .ok (.iload_n 3, 1) := by decide +kernel
theorem dL_law_1398 : decode cL_law 1398 = .ok (.iconst 2, 1) := by decide +kernel
theorem dL_law_1399 : decode cL_law 1399 = .ok (.iadd, 1) := by decide +kernel
theorem dL_law_1400 : decode cL_law 1400 = .ok (.iaload, 1) := by decide +kernel
theorem dL_law_1401 : decode cL_law 1401 = .ok (.aload_n 0, 1) := by decide +kernel
theorem dL_law_1402 : decode cL_law 1402 = .ok (.iload_n 3, 1) := by decide +kernel
theorem dL_law_1403 : decode cL_law 1403 = .ok (.iconst 3, 1) := by decide +kernel
theorem dL_law_1404 : decode cL_law 1404 = .ok (.iadd, 1) := by decide +kernel
theorem dL_law_1405 : decode cL_law 1405 = .ok (.iaload, 1) := by decide +kernel
theorem dL_law_1406 : decode cL_law 1406 = .ok (.aload_n 0, 1) := by decide +kernel
theorem dL_law_1407 : decode cL_law 1407 = .ok (.iload_n 3, 1) := by decide +kernel
theorem dL_law_1408 : decode cL_law 1408 = .ok (.iconst 4, 1) := by decide +kernel
theorem dL_law_1409 : decode cL_law 1409 = .ok (.iadd, 1) := by decide +kernel
theorem dL_law_1410 : decode cL_law 1410 = .ok (.iaload, 1) := by decide +kernel
theorem dL_law_1411 : decode cL_law 1411 = .ok (.aload_n 0, 1) := by decide +kernel
theorem dL_law_1412 : decode cL_law 1412 = .ok (.iload_n 3, 1) := by decide +kernel
theorem dL_law_1413 : decode cL_law 1413 = .ok (.iconst 5, 1) := by decide +kernel
theorem dL_law_1414 : decode cL_law 1414 = .ok (.iadd, 1) := by decide +kernel
theorem dL_law_1415 : decode cL_law 1415 = .ok (.iaload, 1) := by decide +kernel
theorem dL_law_1416 : decode cL_law 1416 = .ok (.invokevirtual 171, 3) := by decide +kernel
theorem dL_law_1419 : decode cL_law 1419 = .ok (.if_icmp .eq 290, 3) := by decide +kernel
theorem dL_law_1422 : decode cL_law 1422 = .ok (.iconst 0, 1) := by decide +kernel
theorem dL_law_1423 : decode cL_law 1423 = .ok (.ireturn, 1) := by decide +kernel
theorem dL_law_1424 : decode cL_law 1424 = .ok (.aload_n 1, 1) := by decide +kernel
theorem dL_law_1425 : decode cL_law 1425 = .ok (.aload_n 0, 1) := by decide +kernel
theorem dL_law_1426 : decode cL_law 1426 = .ok (.iload_n 3, 1) := by decide +kernel
theorem dL_law_1427 : decode cL_law 1427 = .ok (.iconst 1, 1) := by decide +kernel
theorem dL_law_1428 : decode cL_law 1428 = .ok (.iadd, 1) := by decide +kernel
theorem dL_law_1429 : decode cL_law 1429 = .ok (.iaload, 1) := by decide +kernel
theorem dL_law_1430 : decode cL_law 1430 = .ok (.aload_n 0, 1) := by decide +kernel
theorem dL_law_1431 : decode cL_law 1431 = .ok (.iload_n 3, 1) := by decide +kernel
theorem dL_law_1432 : decode cL_law 1432 = .ok (.iconst 2, 1) := by decide +kernel
theorem dL_law_1433 : decode cL_law 1433 = .ok (.iadd, 1) := by decide +kernel
theorem dL_law_1434 : decode cL_law 1434 = .ok (.iaload, 1) := by decide +kernel
theorem dL_law_1435 : decode cL_law 1435 = .ok (.invokevirtual 172, 3) := by decide +kernel
theorem dL_law_1438 : decode cL_law 1438 = .ok (.aload_n 2, 1) := by decide +kernel
theorem dL_law_1439 : decode cL_law 1439 = .ok (.aload_n 0, 1) := by decide +kernel
theorem dL_law_1440 : decode cL_law 1440 = .ok (.iload_n 3, 1) := by decide +kernel
theorem dL_law_1441 : decode cL_law 1441 = .ok (.iconst 1, 1) := by decide +kernel
theorem dL_law_1442 : decode cL_law 1442 = .ok (.iadd, 1) := by decide +kernel
theorem dL_law_1443 : decode cL_law 1443 = .ok (.iaload, 1) := by decide +kernel
theorem dL_law_1444 : decode cL_law 1444 = .ok (.aload_n 0, 1) := by decide +kernel
theorem dL_law_1445 : decode cL_law 1445 = .ok (.iload_n 3, 1) := by decide +kernel
theorem dL_law_1446 : decode cL_law 1446 = .ok (.iconst 2, 1) := by decide +kernel
theorem dL_law_1447 : decode cL_law 1447 = .ok (.iadd, 1) := by decide +kernel
theorem dL_law_1448 : decode cL_law 1448 = .ok (.iaload, 1) := by decide +kernel
theorem dL_law_1449 : decode cL_law 1449 = .ok (.invokevirtual 175, 3) := by decide +kernel
theorem dL_law_1452 : decode cL_law 1452 = .ok (.if_icmp .eq 257, 3) := by decide +kernel
theorem dL_law_1455 : decode cL_law 1455 = .ok (.iconst 0, 1) := by decide +kernel
theorem dL_law_1456 : decode cL_law 1456 = .ok (.ireturn, 1) := by decide +kernel
theorem dL_law_1457 : decode cL_law 1457 = .ok (.aload_n 1, 1) := by decide +kernel
theorem dL_law_1458 : decode cL_law 1458 = .ok (.aload_n 0, 1) := by decide +kernel
theorem dL_law_1459 : decode cL_law 1459 = .ok (.iload_n 3, 1) := by decide +kernel
theorem dL_law_1460 : decode cL_law 1460 = .ok (.iconst 1, 1) := by decide +kernel
theorem dL_law_1461 : decode cL_law 1461 = .ok (.iadd, 1) := by decide +kernel
theorem dL_law_1462 : decode cL_law 1462 = .ok (.iaload, 1) := by decide +kernel
theorem dL_law_1463 : decode cL_law 1463 = .ok (.aload_n 0, 1) := by decide +kernel
theorem dL_law_1464 : decode cL_law 1464 = .ok (.iload_n 3, 1) := by decide +kernel
theorem dL_law_1465 : decode cL_law 1465 = .ok (.iconst 2, 1) := by decide +kernel
theorem dL_law_1466 : decode cL_law 1466 = .ok (.iadd, 1) := by decide +kernel
theorem dL_law_1467 : decode cL_law 1467 = .ok (.iaload, 1) := by decide +kernel
theorem dL_law_1468 : decode cL_law 1468 = .ok (.invokevirtual 176, 3) := by decide +kernel
theorem dL_law_1471 : decode cL_law 1471 = .ok (.aload_n 2, 1) := by decide +kernel
theorem dL_law_1472 : decode cL_law 1472 = .ok (.aload_n 0, 1) := by decide +kernel
theorem dL_law_1473 : decode cL_law 1473 = .ok (.iload_n 3, 1) := by decide +kernel
theorem dL_law_1474 : decode cL_law 1474 = .ok (.iconst 1, 1) := by decide +kernel
theorem dL_law_1475 : decode cL_law 1475 = .ok (.iadd, 1) := by decide +kernel
theorem dL_law_1476 : decode cL_law 1476 = .ok (.iaload, 1) := by decide +kernel
theorem dL_law_1477 : decode cL_law 1477 = .ok (.aload_n 0, 1) := by decide +kernel
theorem dL_law_1478 : decode cL_law 1478 = .ok (.iload_n 3, 1) := by decide +kernel
theorem dL_law_1479 : decode cL_law 1479 = .ok (.iconst 2, 1) := by decide +kernel
theorem dL_law_1480 : decode cL_law 1480 = .ok (.iadd, 1) := by decide +kernel
theorem dL_law_1481 : decode cL_law 1481 = .ok (.iaload, 1) := by decide +kernel
theorem dL_law_1482 : decode cL_law 1482 = .ok (.invokevirtual 179, 3) := by decide +kernel
theorem dL_law_1485 : decode cL_law 1485 = .ok (.if_icmp .eq 224, 3) := by decide +kernel
theorem dL_law_1488 : decode cL_law 1488 = .ok (.iconst 0, 1) := by decide +kernel
theorem dL_law_1489 : decode cL_law 1489 = .ok (.ireturn, 1) := by decide +kernel
theorem dL_law_1490 : decode cL_law 1490 = .ok (.aload_n 1, 1) := by decide +kernel
theorem dL_law_1491 : decode cL_law 1491 = .ok (.aload_n 0, 1) := by decide +kernel
theorem dL_law_1492 : decode cL_law 1492 = .ok (.iload_n 3, 1) := by decide +kernel
theorem dL_law_1493 : decode cL_law 1493 = .ok (.iconst 1, 1) := by decide +kernel
theorem dL_law_1494 : decode cL_law 1494 = .ok (.iadd, 1) := by decide +kernel
theorem dL_law_1495 : decode cL_law 1495 = .ok (.iaload, 1) := by decide +kernel
theorem dL_law_1496 : decode cL_law 1496 = .ok (.aload_n 0, 1) := by decide +kernel
theorem dL_law_1497 : decode cL_law 1497 = .ok (.iload_n 3, 1) := by decide +kernel
theorem dL_law_1498 : decode cL_law 1498 = .ok (.iconst 2, 1) := by decide +kernel
theorem dL_law_1499 : decode cL_law 1499 = .ok (.iadd, 1) := by decide +kernel
theorem dL_law_1500 : decode cL_law 1500 = .ok (.iaload, 1) := by decide +kernel
theorem dL_law_1501 : decode cL_law 1501 = .ok (.ifCond .eq 7, 3) := by decide +kernel
theorem dL_law_1504 : decode cL_law 1504 = .ok (.iconst 1, 1) := by decide +kernel
theorem dL_law_1505 : decode cL_law 1505 = .ok (.goto 4, 3) := by decide +kernel
theorem dL_law_1508 : decode cL_law 1508 = .ok (.iconst 0, 1) := by decide +kernel
theorem dL_law_1509 : decode cL_law 1509 = .ok (.invokevirtual 180, 3) := by decide +kernel
theorem dL_law_1512 : decode cL_law 1512 = .ok (.aload_n 2, 1) := by decide +kernel
theorem dL_law_1513 : decode cL_law 1513 = .ok (.aload_n 0, 1) := by decide +kernel
theorem dL_law_1514 : decode cL_law 1514 = .ok (.iload_n 3, 1) := by decide +kernel
theorem dL_law_1515 : decode cL_law 1515 = .ok (.iconst 1, 1) := by decide +kernel
theorem dL_law_1516 : decode cL_law 1516 = .ok (.iadd, 1) := by decide +kernel
theorem dL_law_1517 : decode cL_law 1517 = .ok (.iaload, 1) := by decide +kernel
theorem dL_law_1518 : decode cL_law 1518 = .ok (.aload_n 0, 1) := by decide +kernel
theorem dL_law_1519 : decode cL_law 1519 = .ok (.iload_n 3, 1) := by decide +kernel
theorem dL_law_1520 : decode cL_law 1520 = .ok (.iconst 2, 1) := by decide +kernel
theorem dL_law_1521 : decode cL_law 1521 = .ok (.iadd, 1) := by decide +kernel
theorem dL_law_1522 : decode cL_law 1522 = .ok (.iaload, 1) := by decide +kernel
theorem dL_law_1523 : decode cL_law 1523 = .ok (.ifCond .eq 7, 3) := by decide +kernel
theorem dL_law_1526 : decode cL_law 1526 = .ok (.iconst 1, 1) := by decide +kernel
theorem dL_law_1527 : decode cL_law 1527 = .ok (.goto 4, 3) := by decide +kernel
theorem dL_law_1530 : decode cL_law 1530 = .ok (.iconst 0, 1) := by decide +kernel
theorem dL_law_1531 : decode cL_law 1531 = .ok (.invokevirtual 184, 3) := by decide +kernel
theorem dL_law_1534 : decode cL_law 1534 = .ok (.if_icmp .eq 175, 3) := by decide +kernel
theorem dL_law_1537 : decode cL_law 1537 = .ok (.iconst 0, 1) := by decide +kernel
theorem dL_law_1538 : decode cL_law 1538 = .ok (.ireturn, 1) := by decide +kernel
theorem dL_law_1539 : decode cL_law 1539 = .ok (.aload_n 1, 1) := by decide +kernel
theorem dL_law_1540 : decode cL_law 1540 = .ok (.aload_n 0, 1) := by decide +kernel
theorem dL_law_1541 : decode cL_law 1541 = .ok (.iload_n 3, 1) := by decide +kernel
theorem dL_law_1542 : decode cL_law 1542 = .ok (.iconst 1, 1) := by decide +kernel
theorem dL_law_1543 : decode cL_law 1543 = .ok (.iadd, 1) := by decide +kernel
theorem dL_law_1544 : decode cL_law 1544 = .ok (.iaload, 1) := by decide +kernel
theorem dL_law_1545 : decode cL_law 1545 = .ok (.aload_n 0, 1) := by decide +kernel
theorem dL_law_1546 : decode cL_law 1546 = .ok (.iload_n 3, 1) := by decide +kernel
theorem dL_law_1547 : decode cL_law 1547 = .ok (.iconst 2, 1) := by decide +kernel
theorem dL_law_1548 : decode cL_law 1548 = .ok (.iadd, 1) := by decide +kernel
theorem dL_law_1549 : decode cL_law 1549 = .ok (.iaload, 1) := by decide +kernel
theorem dL_law_1550 : decode cL_law 1550 = .ok (.aload_n 0, 1) := by decide +kernel
theorem dL_law_1551 : decode cL_law 1551 = .ok (.iload_n 3, 1) := by decide +kernel
theorem dL_law_1552 : decode cL_law 1552 = .ok (.iconst 3, 1) := by decide +kernel
theorem dL_law_1553 : decode cL_law 1553 = .ok (.iadd, 1) := by decide +kernel
theorem dL_law_1554 : decode cL_law 1554 = .ok (.iaload, 1) := by decide +kernel
theorem dL_law_1555 : decode cL_law 1555 = .ok (.invokevirtual 185, 3) := by decide +kernel
theorem dL_law_1558 : decode cL_law 1558 = .ok (.aload_n 2, 1) := by decide +kernel
theorem dL_law_1559 : decode cL_law 1559 = .ok (.aload_n 0, 1) := by decide +kernel
theorem dL_law_1560 : decode cL_law 1560 = .ok (.iload_n 3, 1) := by decide +kernel
theorem dL_law_1561 : decode cL_law 1561 = .ok (.iconst 1, 1) := by decide +kernel
theorem dL_law_1562 : decode cL_law 1562 = .ok (.iadd, 1) := by decide +kernel
theorem dL_law_1563 : decode cL_law 1563 = .ok (.iaload, 1) := by decide +kernel
theorem dL_law_1564 : decode cL_law 1564 = .ok (.aload_n 0, 1) := by decide +kernel
theorem dL_law_1565 : decode cL_law 1565 = .ok (.iload_n 3, 1) := by decide +kernel
theorem dL_law_1566 : decode cL_law 1566 = .ok (.iconst 2, 1) := by decide +kernel
theorem dL_law_1567 : decode cL_law 1567 = .ok (.iadd, 1) := by decide +kernel
theorem dL_law_1568 : decode cL_law 1568 = .ok (.iaload, 1) := by decide +kernel
theorem dL_law_1569 : decode cL_law 1569 = .ok (.aload_n 0, 1) := by decide +kernel
theorem dL_law_1570 : decode cL_law 1570 = .ok (.iload_n 3, 1) := by decide +kernel
theorem dL_law_1571 : decode cL_law 1571 = .ok (.iconst 3, 1) := by decide +kernel
theorem dL_law_1572 : decode cL_law 1572 = .ok (.iadd, 1) := by decide +kernel
theorem dL_law_1573 : decode cL_law 1573 = .ok (.iaload, 1) := by decide +kernel
theorem dL_law_1574 : decode cL_law 1574 = .ok (.invokevirtual 188, 3) := by decide +kernel
theorem dL_law_1577 : decode cL_law 1577 = .ok (.if_icmp .eq 132, 3) := by decide +kernel
theorem dL_law_1580 : decode cL_law 1580 = .ok (.iconst 0, 1) := by decide +kernel
theorem dL_law_1581 : decode cL_law 1581 = .ok (.ireturn, 1) := by decide +kernel
theorem dL_law_1582 : decode cL_law 1582 = .ok (.aload_n 1, 1) := by decide +kernel
theorem dL_law_1583 : decode cL_law 1583 = .ok (.invokevirtual 189, 3) := by decide +kernel
theorem dL_law_1586 : decode cL_law 1586 = .ok (.aload_n 2, 1) := by decide +kernel
theorem dL_law_1587 : decode cL_law 1587 = .ok (.invokevirtual 192, 3) := by decide +kernel
theorem dL_law_1590 : decode cL_law 1590 = .ok (.if_icmp .eq 119, 3) := by decide +kernel
theorem dL_law_1593 : decode cL_law 1593 = .ok (.iconst 0, 1) := by decide +kernel
theorem dL_law_1594 : decode cL_law 1594 = .ok (.ireturn, 1) := by decide +kernel
theorem dL_law_1595 : decode cL_law 1595 = .ok (.aload_n 1, 1) := by decide +kernel
theorem dL_law_1596 : decode cL_law 1596 = .ok (.invokevirtual 193, 3) := by decide +kernel
theorem dL_law_1599 : decode cL_law 1599 = .ok (.aload_n 2, 1) := by decide +kernel
theorem dL_law_1600 : decode cL_law 1600 = .ok (.invokevirtual 196, 3) := by decide +kernel
theorem dL_law_1603 : decode cL_law 1603 = .ok (.if_icmp .eq 106, 3) := by decide +kernel
theorem dL_law_1606 : decode cL_law 1606 = .ok (.iconst 0, 1) := by decide +kernel
theorem dL_law_1607 : decode cL_law 1607 = .ok (.ireturn, 1) := by decide +kernel
theorem dL_law_1608 : decode cL_law 1608 = .ok (.aload_n 1, 1) := by decide +kernel
theorem dL_law_1609 : decode cL_law 1609 = .ok (.invokevirtual 197, 3) := by decide +kernel
theorem dL_law_1612 : decode cL_law 1612 = .ok (.aload_n 2, 1) := by decide +kernel
theorem dL_law_1613 : decode cL_law 1613 = .ok (.invokevirtual 201, 3) := by decide +kernel
theorem dL_law_1616 : decode cL_law 1616 = .ok (.lcmp, 1) := by decide +kernel
theorem dL_law_1617 : decode cL_law 1617 = .ok (.ifCond .eq 92, 3) := by decide +kernel
theorem dL_law_1620 : decode cL_law 1620 = .ok (.iconst 0, 1) := by decide +kernel
theorem dL_law_1621 : decode cL_law 1621 = .ok (.ireturn, 1) := by decide +kernel
theorem dL_law_1622 : decode cL_law 1622 = .ok (.aload_n 1, 1) := by decide +kernel
theorem dL_law_1623 : decode cL_law 1623 = .ok (.invokevirtual 202, 3) := by decide +kernel
theorem dL_law_1626 : decode cL_law 1626 = .ok (.aload_n 2, 1) := by decide +kernel
theorem dL_law_1627 : decode cL_law 1627 = .ok (.invokevirtual 205, 3) := by decide +kernel
theorem dL_law_1630 : decode cL_law 1630 = .ok (.lcmp, 1) := by decide +kernel
theorem dL_law_1631 : decode cL_law 1631 = .ok (.ifCond .eq 78, 3) := by decide +kernel
theorem dL_law_1634 : decode cL_law 1634 = .ok (.iconst 0, 1) := by decide +kernel
theorem dL_law_1635 : decode cL_law 1635 = .ok (.ireturn, 1) := by decide +kernel
theorem dL_law_1636 : decode cL_law 1636 = .ok (.aload_n 1, 1) := by decide +kernel
theorem dL_law_1637 : decode cL_law 1637 = .ok (.aload_n 0, 1) := by decide +kernel
theorem dL_law_1638 : decode cL_law 1638 = .ok (.iload_n 3, 1) := by decide +kernel
theorem dL_law_1639 : decode cL_law 1639 = .ok (.iconst 1, 1) := by decide +kernel
theorem dL_law_1640 : decode cL_law 1640 = .ok (.iadd, 1) := by decide +kernel
theorem dL_law_1641 : decode cL_law 1641 = .ok (.iaload, 1) := by decide +kernel
theorem dL_law_1642 : decode cL_law 1642 = .ok (.invokevirtual 206, 3) := by decide +kernel
theorem dL_law_1645 : decode cL_law 1645 = .ok (.aload_n 2, 1) := by decide +kernel
theorem dL_law_1646 : decode cL_law 1646 = .ok (.aload_n 0, 1) := by decide +kernel
theorem dL_law_1647 : decode cL_law 1647 = .ok (.iload_n 3, 1) := by decide +kernel
theorem dL_law_1648 : decode cL_law 1648 = .ok (.iconst 1, 1) := by decide +kernel
theorem dL_law_1649 : decode cL_law 1649 = .ok (.iadd, 1) := by decide +kernel
theorem dL_law_1650 : decode cL_law 1650 = .ok (.iaload, 1) := by decide +kernel
theorem dL_law_1651 : decode cL_law 1651 = .ok (.invokevirtual 209, 3) := by decide +kernel
theorem dL_law_1654 : decode cL_law 1654 = .ok (.if_icmp .eq 55, 3) := by decide +kernel
theorem dL_law_1657 : decode cL_law 1657 = .ok (.iconst 0, 1) := by decide +kernel
theorem dL_law_1658 : decode cL_law 1658 = .ok (.ireturn, 1) := by decide +kernel
theorem dL_law_1659 : decode cL_law 1659 = .ok (.aload_n 1, 1) := by decide +kernel
theorem dL_law_1660 : decode cL_law 1660 = .ok (.invokevirtual 210, 3) := by decide +kernel
theorem dL_law_1663 : decode cL_law 1663 = .ok (.aload_n 2, 1) := by decide +kernel
theorem dL_law_1664 : decode cL_law 1664 = .ok (.invokevirtual 213, 3) := by decide +kernel
theorem dL_law_1667 : decode cL_law 1667 = .ok (.if_icmp .eq 42, 3) := by decide +kernel
theorem dL_law_1670 : decode cL_law 1670 = .ok (.iconst 0, 1) := by decide +kernel
theorem dL_law_1671 : decode cL_law 1671 = .ok (.ireturn, 1) := by decide +kernel
theorem dL_law_1672 : decode cL_law 1672 = .ok (.aload_n 1, 1) := by decide +kernel
theorem dL_law_1673 : decode cL_law 1673 = .ok (.aload_n 0, 1) := by decide +kernel
theorem dL_law_1674 : decode cL_law 1674 = .ok (.iload_n 3, 1) := by decide +kernel
theorem dL_law_1675 : decode cL_law 1675 = .ok (.iconst 1, 1) := by decide +kernel
theorem dL_law_1676 : decode cL_law 1676 = .ok (.iadd, 1) := by decide +kernel
theorem dL_law_1677 : decode cL_law 1677 = .ok (.iaload, 1) := by decide +kernel
theorem dL_law_1678 : decode cL_law 1678 = .ok (.invokevirtual 214, 3) := by decide +kernel
theorem dL_law_1681 : decode cL_law 1681 = .ok (.aload_n 2, 1) := by decide +kernel
theorem dL_law_1682 : decode cL_law 1682 = .ok (.aload_n 0, 1) := by decide +kernel
theorem dL_law_1683 : decode cL_law 1683 = .ok (.iload_n 3, 1) := by decide +kernel
theorem dL_law_1684 : decode cL_law 1684 = .ok (.iconst 1, 1) := by decide +kernel
theorem dL_law_1685 : decode cL_law 1685 = .ok (.iadd, 1) := by decide +kernel
theorem dL_law_1686 : decode cL_law 1686 = .ok (.iaload, 1) := by decide +kernel
theorem dL_law_1687 : decode cL_law 1687 = .ok (.invokevirtual 217, 3) := by decide +kernel
theorem dL_law_1690 : decode cL_law 1690 = .ok (.if_icmp .eq 19, 3) := by decide +kernel
theorem dL_law_1693 : decode cL_law 1693 = .ok (.iconst 0, 1) := by decide +kernel
theorem dL_law_1694 : decode cL_law 1694 = .ok (.ireturn, 1) := by decide +kernel
theorem dL_law_1695 : decode cL_law 1695 = .ok (.aload_n 1, 1) := by decide +kernel
theorem dL_law_1696 : decode cL_law 1696 = .ok (.invokevirtual 218, 3) := by decide +kernel
theorem dL_law_1699 : decode cL_law 1699 = .ok (.aload_n 2, 1) := by decide +kernel
theorem dL_law_1700 : decode cL_law 1700 = .ok (.invokevirtual 221, 3) := by decide +kernel
theorem dL_law_1703 : decode cL_law 1703 = .ok (.lcmp, 1) := by decide +kernel
theorem dL_law_1704 : decode cL_law 1704 = .ok (.ifCond .eq 5, 3) := by decide +kernel
theorem dL_law_1707 : decode cL_law 1707 = .ok (.iconst 0, 1) := by decide +kernel
theorem dL_law_1708 : decode cL_law 1708 = .ok (.ireturn, 1) := by decide +kernel
theorem dL_law_1709 : decode cL_law 1709 = .ok (.iinc 3 7, 3) := by decide +kernel
theorem dL_law_1712 : decode cL_law 1712 = .ok (.goto (-1694), 3) := by decide +kernel
theorem dL_law_1715 : decode cL_law 1715 = .ok (.iconst 1, 1) := by decide +kernel
theorem dL_law_1716 : decode cL_law 1716 = .ok (.ireturn, 1) := by decide +kernel
