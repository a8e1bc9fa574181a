theorem d_M_endAll_0 : decode b_M_endAll 0 = .ok (.iconst 1, 1) := by decide +kernel
theorem d_M_endAll_1 : decode b_M_endAll 1 = .ok (.istore_n 2, 1) := by decide +kernel
theorem d_M_endAll_2 : decode b_M_endAll 2 = .ok (.iload_n 2, 1) := by decide +kernel
theorem d_M_endAll_3 : decode b_M_endAll 3 = .ok (.aload_n 0, 1) := by decide +kernel
theorem d_M_endAll_4 : decode b_M_endAll 4 = .ok (.getfield 73, 3) := by decide +kernel
theorem d_M_endAll_7 : decode b_M_endAll 7 = .ok (.if_icmp .gt 40, 3) := by decide +kernel
theorem d_M_endAll_10 : decode b_M_endAll 10 = .ok (.aload_n 0, 1) := by decide +kernel
theorem d_M_endAll_11 : decode b_M_endAll 11 = .ok (.getfield 76, 3) := by decide +kernel
theorem d_M_endAll_14 : decode b_M_endAll 14 = .ok (.ifCond .ne 33, 3) := by decide +kernel
theorem d_M_endAll_17 : decode b_M_endAll 17 = .ok (.aload_n 0, 1) := by decide +kernel
theorem d_M_endAll_18 : decode b_M_endAll 18 = .ok (.getfield 27, 3) := by decide +kernel
theorem d_M_endAll_21 : decode b_M_endAll 21 = .ok (.iload_n 2, 1) := by decide +kernel
theorem d_M_endAll_22 : decode b_M_endAll 22 = .ok (.iaload, 1) := by decide +kernel
theorem d_M_endAll_23 : decode b_M_endAll 23 = .ok (.iload_n 1, 1) := by decide +kernel
theorem d_M_endAll_24 : decode b_M_endAll 24 = .ok (.if_icmp .ne 17, 3) := by decide +kernel
theorem d_M_endAll_27 : decode b_M_endAll 27 = .ok (.aload_n 0, 1) := by decide +kernel
theorem d_M_endAll_28 : decode b_M_endAll 28 = .ok (.getfield 33, 3) := by decide +kernel
theorem d_M_endAll_31 : decode b_M_endAll 31 = .ok (.iload_n 2, 1) := by decide +kernel
theorem d_M_endAll_32 : decode b_M_endAll 32 = .ok (.baload, 1) := by decide +kernel
theorem d_M_endAll_33 : decode b_M_endAll 33 = .ok (.ifCond .eq 8, 3) := by decide +kernel
theorem d_M_endAll_36 : decode b_M_endAll 36 = .ok (.aload_n 0, 1) := by decide +kernel
theorem d_M_endAll_37 : decode b_M_endAll 37 = .ok (.iload_n 2, 1) := by decide +kernel
theorem d_M_endAll_38 : decode b_M_endAll 38 = .ok (.invokevirtual 100, 3) := by decide +kernel
theorem d_M_endAll_41 : decode b_M_endAll 41 = .ok (.iinc 2 1, 3) := by decide +kernel
theorem d_M_endAll_44 : decode b_M_endAll 44 = .ok (.goto (-42), 3) := by decide +kernel
theorem d_M_endAll_47 : decode b_M_endAll 47 = .ok (.return_, 1) := by decide +kernel
theorem d_M_react_0 : decode b_M_react 0 = .ok (.iconst 0, 1) := by decide +kernel
theorem d_M_react_1 : decode b_M_react 1 = .ok (.istore_n 3, 1) := by decide +kernel
theorem d_M_react_2 : decode b_M_react 2 = .ok (.iload_n 3, 1) := by decide +kernel
theorem d_M_react_3 : decode b_M_react 3 = .ok (.iconst 3, 1) := by decide +kernel
theorem d_M_react_4 : decode b_M_react 4 = .ok (.if_icmp .ge 27, 3) := by decide +kernel
theorem d_M_react_7 : decode b_M_react 7 = .ok (.aload_n 0, 1) := by decide +kernel
theorem d_M_react_8 : decode b_M_react 8 = .ok (.getfield 54, 3) := by decide +kernel
theorem d_M_react_11 : decode b_M_react 11 = .ok (.iload_n 3, 1) := by decide +kernel
theorem d_M_react_12 : decode b_M_react 12 = .ok (.baload, 1) := by decide +kernel
theorem d_M_react_13 : decode b_M_react 13 = .ok (.ifCond .ne 18, 3) := by decide +kernel
theorem d_M_react_16 : decode b_M_react 16 = .ok (.aload_n 0, 1) := by decide +kernel
theorem d_M_react_17 : decode b_M_react 17 = .ok (.getfield 51, 3) := by decide +kernel
theorem d_M_react_20 : decode b_M_react 20 = .ok (.iload_n 3, 1) := by decide +kernel
theorem d_M_react_21 : decode b_M_react 21 = .ok (.iaload, 1) := by decide +kernel
theorem d_M_react_22 : decode b_M_react 22 = .ok (.ifCond .ne 9, 3) := by decide +kernel
theorem d_M_react_25 : decode b_M_react 25 = .ok (.iinc 3 1, 3) := by decide +kernel
theorem d_M_react_28 : decode b_M_react 28 = .ok (.goto (-26), 3) := by decide +kernel
theorem d_M_react_31 : decode b_M_react 31 = .ok (.iload_n 3, 1) := by decide +kernel
theorem d_M_react_32 : decode b_M_react 32 = .ok (.iconst 3, 1) := by decide +kernel
theorem d_M_react_33 : decode b_M_react 33 = .ok (.if_icmp .ne 7, 3) := by decide +kernel
theorem d_M_react_36 : decode b_M_react 36 = .ok (.iconst 2, 1) := by decide +kernel
theorem d_M_react_37 : decode b_M_react 37 = .ok (.goto 22, 3) := by decide +kernel
theorem d_M_react_40 : decode b_M_react 40 = .ok (.aload_n 0, 1) := by decide +kernel
theorem d_M_react_41 : decode b_M_react 41 = .ok (.getfield 54, 3) := by decide +kernel
theorem d_M_react_44 : decode b_M_react 44 = .ok (.iload_n 3, 1) := by decide +kernel
theorem d_M_react_45 : decode b_M_react 45 = .ok (.baload, 1) := by decide +kernel
theorem d_M_react_46 : decode b_M_react 46 = .ok (.ifCond .eq 7, 3) := by decide +kernel
theorem d_M_react_49 : decode b_M_react 49 = .ok (.iconst 5, 1) := by decide +kernel
theorem d_M_react_50 : decode b_M_react 50 = .ok (.goto 9, 3) := by decide +kernel
theorem d_M_react_53 : decode b_M_react 53 = .ok (.aload_n 0, 1) := by decide +kernel
theorem d_M_react_54 : decode b_M_react 54 = .ok (.getfield 51, 3) := by decide +kernel
theorem d_M_react_57 : decode b_M_react 57 = .ok (.iload_n 3, 1) := by decide +kernel
theorem d_M_react_58 : decode b_M_react 58 = .ok (.iaload, 1) := by decide +kernel
theorem d_M_react_59 : decode b_M_react 59 = .ok (.istore 4, 2) := by decide +kernel
theorem d_M_react_61 : decode b_M_react 61 = .ok (.aload_n 0, 1) := by decide +kernel
theorem d_M_react_62 : decode b_M_react 62 = .ok (.getfield 27, 3) := by decide +kernel
theorem d_M_react_65 : decode b_M_react 65 = .ok (.iload_n 1, 1) := by decide +kernel
theorem d_M_react_66 : decode b_M_react 66 = .ok (.iaload, 1) := by decide +kernel
theorem d_M_react_67 : decode b_M_react 67 = .ok (.istore 5, 2) := by decide +kernel
theorem d_M_react_69 : decode b_M_react 69 = .ok (.aload_n 0, 1) := by decide +kernel
theorem d_M_react_70 : decode b_M_react 70 = .ok (.iconst 0, 1) := by decide +kernel
theorem d_M_react_71 : decode b_M_react 71 = .ok (.putfield 94, 3) := by decide +kernel
theorem d_M_react_74 : decode b_M_react 74 = .ok (.iload 4, 2) := by decide +kernel
theorem d_M_react_76 : decode b_M_react 76 = .ok (.iconst 2, 1) := by decide +kernel
theorem d_M_react_77 : decode b_M_react 77 = .ok (.if_icmp .ne 8, 3) := by decide +kernel
theorem d_M_react_80 : decode b_M_react 80 = .ok (.aload_n 0, 1) := by decide +kernel
theorem d_M_react_81 : decode b_M_react 81 = .ok (.iload_n 1, 1) := by decide +kernel
theorem d_M_react_82 : decode b_M_react 82 = .ok (.invokevirtual 100, 3) := by decide +kernel
theorem d_M_react_85 : decode b_M_react 85 = .ok (.iload 4, 2) := by decide +kernel
theorem d_M_react_87 : decode b_M_react 87 = .ok (.iconst 3, 1) := by decide +kernel
theorem d_M_react_88 : decode b_M_react 88 = .ok (.if_icmp .ne 17, 3) := by decide +kernel
theorem d_M_react_91 : decode b_M_react 91 = .ok (.aload_n 0, 1) := by decide +kernel
theorem d_M_react_92 : decode b_M_react 92 = .ok (.getfield 13, 3) := by decide +kernel
theorem d_M_react_95 : decode b_M_react 95 = .ok (.iload 5, 2) := by decide +kernel
theorem d_M_react_97 : decode b_M_react 97 = .ok (.iconst 1, 1) := by decide +kernel
theorem d_M_react_98 : decode b_M_react 98 = .ok (.bastore, 1) := by decide +kernel
theorem d_M_react_99 : decode b_M_react 99 = .ok (.aload_n 0, 1) := by decide +kernel
theorem d_M_react_100 : decode b_M_react 100 = .ok (.iload 5, 2) := by decide +kernel
theorem d_M_react_102 : decode b_M_react 102 = .ok (.invokevirtual 104, 3) := by decide +kernel
theorem d_M_react_105 : decode b_M_react 105 = .ok (.iload 4, 2) := by decide +kernel
theorem d_M_react_107 : decode b_M_react 107 = .ok (.iconst 4, 1) := by decide +kernel
theorem d_M_react_108 : decode b_M_react 108 = .ok (.if_icmp .ne 96, 3) := by decide +kernel
theorem d_M_react_111 : decode b_M_react 111 = .ok (.aload_n 0, 1) := by decide +kernel
theorem d_M_react_112 : decode b_M_react 112 = .ok (.iload 5, 2) := by decide +kernel
theorem d_M_react_114 : decode b_M_react 114 = .ok (.invokevirtual 104, 3) := by decide +kernel
theorem d_M_react_117 : decode b_M_react 117 = .ok (.aload_n 0, 1) := by decide +kernel
theorem d_M_react_118 : decode b_M_react 118 = .ok (.getfield 76, 3) := by decide +kernel
theorem d_M_react_121 : decode b_M_react 121 = .ok (.ifCond .ne 27, 3) := by decide +kernel
theorem d_M_react_124 : decode b_M_react 124 = .ok (.aload_n 0, 1) := by decide +kernel
theorem d_M_react_125 : decode b_M_react 125 = .ok (.getfield 7, 3) := by decide +kernel
theorem d_M_react_128 : decode b_M_react 128 = .ok (.iload 5, 2) := by decide +kernel
theorem d_M_react_130 : decode b_M_react 130 = .ok (.iaload, 1) := by decide +kernel
theorem d_M_react_131 : decode b_M_react 131 = .ok (.ifCond .ne 17, 3) := by decide +kernel
theorem d_M_react_134 : decode b_M_react 134 = .ok (.aload_n 0, 1) := by decide +kernel
theorem d_M_react_135 : decode b_M_react 135 = .ok (.getfield 13, 3) := by decide +kernel
theorem d_M_react_138 : decode b_M_react 138 = .ok (.iload 5, 2) := by decide +kernel
theorem d_M_react_140 : decode b_M_react 140 = .ok (.iconst 1, 1) := by decide +kernel
theorem d_M_react_141 : decode b_M_react 141 = .ok (.bastore, 1) := by decide +kernel
theorem d_M_react_142 : decode b_M_react 142 = .ok (.iconst 3, 1) := by decide +kernel
theorem d_M_react_143 : decode b_M_react 143 = .ok (.istore 4, 2) := by decide +kernel
theorem d_M_react_145 : decode b_M_react 145 = .ok (.goto 59, 3) := by decide +kernel
theorem d_M_react_148 : decode b_M_react 148 = .ok (.aload_n 0, 1) := by decide +kernel
theorem d_M_react_149 : decode b_M_react 149 = .ok (.getfield 76, 3) := by decide +kernel
theorem d_M_react_152 : decode b_M_react 152 = .ok (.ifCond .ne 52, 3) := by decide +kernel
theorem d_M_react_155 : decode b_M_react 155 = .ok (.aload_n 0, 1) := by decide +kernel
theorem d_M_react_156 : decode b_M_react 156 = .ok (.getfield 7, 3) := by decide +kernel
theorem d_M_react_159 : decode b_M_react 159 = .ok (.iload 5, 2) := by decide +kernel
theorem d_M_react_161 : decode b_M_react 161 = .ok (.dup2, 1) := by decide +kernel
theorem d_M_react_162 : decode b_M_react 162 = .ok (.iaload, 1) := by decide +kernel
theorem d_M_react_163 : decode b_M_react 163 = .ok (.iconst 1, 1) := by decide +kernel
theorem d_M_react_164 : decode b_M_react 164 = .ok (.isub, 1) := by decide +kernel
theorem d_M_react_165 : decode b_M_react 165 = .ok (.iastore, 1) := by decide +kernel
theorem d_M_react_166 : decode b_M_react 166 = .ok (.iconst 1, 1) := by decide +kernel
theorem d_M_react_167 : decode b_M_react 167 = .ok (.istore 6, 2) := by decide +kernel
theorem d_M_react_169 : decode b_M_react 169 = .ok (.iload 6, 2) := by decide +kernel
theorem d_M_react_171 : decode b_M_react 171 = .ok (.aload_n 0, 1) := by decide +kernel
theorem d_M_react_172 : decode b_M_react 172 = .ok (.getfield 73, 3) := by decide +kernel
theorem d_M_react_175 : decode b_M_react 175 = .ok (.if_icmp .gt 29, 3) := by decide +kernel
theorem d_M_react_178 : decode b_M_react 178 = .ok (.aload_n 0, 1) := by decide +kernel
theorem d_M_react_179 : decode b_M_react 179 = .ok (.getfield 27, 3) := by decide +kernel
theorem d_M_react_182 : decode b_M_react 182 = .ok (.iload 6, 2) := by decide +kernel
theorem d_M_react_184 : decode b_M_react 184 = .ok (.iaload, 1) := by decide +kernel
theorem d_M_react_185 : decode b_M_react 185 = .ok (.iload 5, 2) := by decide +kernel
theorem d_M_react_187 : decode b_M_react 187 = .ok (.if_icmp .ne 11, 3) := by decide +kernel
theorem d_M_react_190 : decode b_M_react 190 = .ok (.aload_n 0, 1) := by decide +kernel
theorem d_M_react_191 : decode b_M_react 191 = .ok (.getfield 33, 3) := by decide +kernel
theorem d_M_react_194 : decode b_M_react 194 = .ok (.iload 6, 2) := by decide +kernel
theorem d_M_react_196 : decode b_M_react 196 = .ok (.iconst 1, 1) := by decide +kernel
theorem d_M_react_197 : decode b_M_react 197 = .ok (.bastore, 1) := by decide +kernel
theorem d_M_react_198 : decode b_M_react 198 = .ok (.iinc 6 1, 3) := by decide +kernel
theorem d_M_react_201 : decode b_M_react 201 = .ok (.goto (-32), 3) := by decide +kernel
theorem d_M_react_204 : decode b_M_react 204 = .ok (.iload 4, 2) := by decide +kernel
theorem d_M_react_206 : decode b_M_react 206 = .ok (.iconst 5, 1) := by decide +kernel
theorem d_M_react_207 : decode b_M_react 207 = .ok (.if_icmp .ne 7, 3) := by decide +kernel
theorem d_M_react_210 : decode b_M_react 210 = .ok (.aload_n 0, 1) := by decide +kernel
theorem d_M_react_211 : decode b_M_react 211 = .ok (.invokevirtual 97, 3) := by decide +kernel
theorem d_M_react_214 : decode b_M_react 214 = .ok (.aload_n 0, 1) := by decide +kernel
theorem d_M_react_215 : decode b_M_react 215 = .ok (.getfield 76, 3) := by decide +kernel
theorem d_M_react_218 : decode b_M_react 218 = .ok (.ifCond .eq 7, 3) := by decide +kernel
theorem d_M_react_221 : decode b_M_react 221 = .ok (.iconst 5, 1) := by decide +kernel
theorem d_M_react_222 : decode b_M_react 222 = .ok (.goto 5, 3) := by decide +kernel
theorem d_M_react_225 : decode b_M_react 225 = .ok (.iload 4, 2) := by decide +kernel
theorem d_M_react_227 : decode b_M_react 227 = .ok (.istore 4, 2) := by decide +kernel
theorem d_M_react_229 : decode b_M_react 229 = .ok (.aload_n 0, 1) := by decide +kernel
theorem d_M_react_230 : decode b_M_react 230 = .ok (.getfield 107, 3) := by decide +kernel
theorem d_M_react_233 : decode b_M_react 233 = .ok (.sipush 500, 3) := by decide +kernel
theorem d_M_react_236 : decode b_M_react 236 = .ok (.if_icmp .ge 58, 3) := by decide +kernel
theorem d_M_react_239 : decode b_M_react 239 = .ok (.aload_n 0, 1) := by decide +kernel
theorem d_M_react_240 : decode b_M_react 240 = .ok (.getfield 63, 3) := by decide +kernel
theorem d_M_react_243 : decode b_M_react 243 = .ok (.iconst 4, 1) := by decide +kernel
theorem d_M_react_244 : decode b_M_react 244 = .ok (.aload_n 0, 1) := by decide +kernel
theorem d_M_react_245 : decode b_M_react 245 = .ok (.getfield 107, 3) := by decide +kernel
theorem d_M_react_248 : decode b_M_react 248 = .ok (.imul, 1) := by decide +kernel
theorem d_M_react_249 : decode b_M_react 249 = .ok (.iload_n 1, 1) := by decide +kernel
theorem d_M_react_250 : decode b_M_react 250 = .ok (.iastore, 1) := by decide +kernel
theorem d_M_react_251 : decode b_M_react 251 = .ok (.aload_n 0, 1) := by decide +kernel
theorem d_M_react_252 : decode b_M_react 252 = .ok (.getfield 63, 3) := by decide +kernel
theorem d_M_react_255 : decode b_M_react 255 = .ok (.iconst 4, 1) := by decide +kernel
theorem d_M_react_256 : decode b_M_react 256 = .ok (.aload_n 0, 1) := by decide +kernel
theorem d_M_react_257 : decode b_M_react 257 = .ok (.getfield 107, 3) := by decide +kernel
theorem d_M_react_260 : decode b_M_react 260 = .ok (.imul, 1) := by decide +kernel
theorem d_M_react_261 : decode b_M_react 261 = .ok (.iconst 1, 1) := by decide +kernel
theorem d_M_react_262 : decode b_M_react 262 = .ok (.iadd, 1) := by decide +kernel
theorem d_M_react_263 : decode b_M_react 263 = .ok (.iload_n 2, 1) := by decide +kernel
theorem d_M_react_264 : decode b_M_react 264 = .ok (.iastore, 1) := by decide +kernel
theorem d_M_react_265 : decode b_M_react 265 = .ok (.aload_n 0, 1) := by decide +kernel
theorem d_M_react_266 : decode b_M_react 266 = .ok (.getfield 63, 3) := by decide +kernel
theorem d_M_react_269 : decode b_M_react 269 = .ok (.iconst 4, 1) := by decide +kernel
theorem d_M_react_270 : decode b_M_react 270 = .ok (.aload_n 0, 1) := by decide +kernel
theorem d_M_react_271 : decode b_M_react 271 = .ok (.getfield 107, 3) := by decide +kernel
theorem d_M_react_274 : decode b_M_react 274 = .ok (.imul, 1) := by decide +kernel
theorem d_M_react_275 : decode b_M_react 275 = .ok (.iconst 2, 1) := by decide +kernel
theorem d_M_react_276 : decode b_M_react 276 = .ok (.iadd, 1) := by decide +kernel
theorem d_M_react_277 : decode b_M_react 277 = .ok (.iload_n 3, 1) := by decide +kernel
theorem d_M_react_278 : decode b_M_react 278 = .ok (.iastore, 1) := by decide +kernel
theorem d_M_react_279 : decode b_M_react 279 = .ok (.aload_n 0, 1) := by decide +kernel
theorem d_M_react_280 : decode b_M_react 280 = .ok (.getfield 63, 3) := by decide +kernel
theorem d_M_react_283 : decode b_M_react 283 = .ok (.iconst 4, 1) := by decide +kernel
theorem d_M_react_284 : decode b_M_react 284 = .ok (.aload_n 0, 1) := by decide +kernel
theorem d_M_react_285 : decode b_M_react 285 = .ok (.getfield 107, 3) := by decide +kernel
theorem d_M_react_288 : decode b_M_react 288 = .ok (.imul, 1) := by decide +kernel
theorem d_M_react_289 : decode b_M_react 289 = .ok (.iconst 3, 1) := by decide +kernel
theorem d_M_react_290 : decode b_M_react 290 = .ok (.iadd, 1) := by decide +kernel
theorem d_M_react_291 : decode b_M_react 291 = .ok (.iload 4, 2) := by decide +kernel
theorem d_M_react_293 : decode b_M_react 293 = .ok (.iastore, 1) := by decide +kernel
theorem d_M_react_294 : decode b_M_react 294 = .ok (.aload_n 0, 1) := by decide +kernel
theorem d_M_react_295 : decode b_M_react 295 = .ok (.dup, 1) := by decide +kernel
theorem d_M_react_296 : decode b_M_react 296 = .ok (.getfield 107, 3) := by decide +kernel
theorem d_M_react_299 : decode b_M_react 299 = .ok (.iconst 1, 1) := by decide +kernel
theorem d_M_react_300 : decode b_M_react 300 = .ok (.iadd, 1) := by decide +kernel
theorem d_M_react_301 : decode b_M_react 301 = .ok (.putfield 107, 3) := by decide +kernel
theorem d_M_react_304 : decode b_M_react 304 = .ok (.iload 4, 2) := by decide +kernel
theorem d_M_react_306 : decode b_M_react 306 = .ok (.ireturn, 1) := by decide +kernel
theorem d_M_fault_0 : decode b_M_fault 0 = .ok (.aload_n 0, 1) := by decide +kernel
theorem d_M_fault_1 : decode b_M_fault 1 = .ok (.iload_n 1, 1) := by decide +kernel
theorem d_M_fault_2 : decode b_M_fault 2 = .ok (.invokevirtual 88, 3) := by decide +kernel
theorem d_M_fault_5 : decode b_M_fault 5 = .ok (.ifCond .eq 5, 3) := by decide +kernel
theorem d_M_fault_8 : decode b_M_fault 8 = .ok (.iconst (-1), 1) := by decide +kernel
theorem d_M_fault_9 : decode b_M_fault 9 = .ok (.ireturn, 1) := by decide +kernel
theorem d_M_fault_10 : decode b_M_fault 10 = .ok (.iload_n 2, 1) := by decide +kernel
theorem d_M_fault_11 : decode b_M_fault 11 = .ok (.iconst 1, 1) := by decide +kernel
theorem d_M_fault_12 : decode b_M_fault 12 = .ok (.if_icmp .lt 8, 3) := by decide +kernel
theorem d_M_fault_15 : decode b_M_fault 15 = .ok (.iload_n 2, 1) := by decide +kernel
theorem d_M_fault_16 : decode b_M_fault 16 = .ok (.iconst 5, 1) := by decide +kernel
theorem d_M_fault_17 : decode b_M_fault 17 = .ok (.if_icmp .le 6, 3) := by decide +kernel
theorem d_M_fault_20 : decode b_M_fault 20 = .ok (.bipush (-2), 2) := by decide +kernel
theorem d_M_fault_22 : decode b_M_fault 22 = .ok (.ireturn, 1) := by decide +kernel
theorem d_M_fault_23 : decode b_M_fault 23 = .ok (.aload_n 0, 1) := by decide +kernel
theorem d_M_fault_24 : decode b_M_fault 24 = .ok (.getfield 76, 3) := by decide +kernel
theorem d_M_fault_27 : decode b_M_fault 27 = .ok (.ifCond .ne 12, 3) := by decide +kernel
theorem d_M_fault_30 : decode b_M_fault 30 = .ok (.aload_n 0, 1) := by decide +kernel
theorem d_M_fault_31 : decode b_M_fault 31 = .ok (.getfield 33, 3) := by decide +kernel
theorem d_M_fault_34 : decode b_M_fault 34 = .ok (.iload_n 1, 1) := by decide +kernel
theorem d_M_fault_35 : decode b_M_fault 35 = .ok (.baload, 1) := by decide +kernel
theorem d_M_fault_36 : decode b_M_fault 36 = .ok (.ifCond .ne 6, 3) := by decide +kernel
theorem d_M_fault_39 : decode b_M_fault 39 = .ok (.bipush (-3), 2) := by decide +kernel
theorem d_M_fault_41 : decode b_M_fault 41 = .ok (.ireturn, 1) := by decide +kernel
theorem d_M_fault_42 : decode b_M_fault 42 = .ok (.aload_n 0, 1) := by decide +kernel
theorem d_M_fault_43 : decode b_M_fault 43 = .ok (.iload_n 1, 1) := by decide +kernel
theorem d_M_fault_44 : decode b_M_fault 44 = .ok (.iload_n 2, 1) := by decide +kernel
theorem d_M_fault_45 : decode b_M_fault 45 = .ok (.invokevirtual 110, 3) := by decide +kernel
theorem d_M_fault_48 : decode b_M_fault 48 = .ok (.ireturn, 1) := by decide +kernel
theorem d_M_arrival_0 : decode b_M_arrival 0 = .ok (.aload_n 0, 1) := by decide +kernel
theorem d_M_arrival_1 : decode b_M_arrival 1 = .ok (.iload_n 1, 1) := by decide +kernel
theorem d_M_arrival_2 : decode b_M_arrival 2 = .ok (.invokevirtual 88, 3) := by decide +kernel
theorem d_M_arrival_5 : decode b_M_arrival 5 = .ok (.ifCond .eq 7, 3) := by decide +kernel
theorem d_M_arrival_8 : decode b_M_arrival 8 = .ok (.sipush (-1000), 3) := by decide +kernel
theorem d_M_arrival_11 : decode b_M_arrival 11 = .ok (.ireturn, 1) := by decide +kernel
theorem d_M_arrival_12 : decode b_M_arrival 12 = .ok (.lload_n 2, 1) := by decide +kernel
theorem d_M_arrival_13 : decode b_M_arrival 13 = .ok (.lconst 0, 1) := by decide +kernel
theorem d_M_arrival_14 : decode b_M_arrival 14 = .ok (.lcmp, 1) := by decide +kernel
theorem d_M_arrival_15 : decode b_M_arrival 15 = .ok (.ifCond .lt 14, 3) := by decide +kernel
theorem d_M_arrival_18 : decode b_M_arrival 18 = .ok (.lload_n 2, 1) := by decide +kernel
theorem d_M_arrival_19 : decode b_M_arrival 19 = .ok (.aload_n 0, 1) := by decide +kernel
theorem d_M_arrival_20 : decode b_M_arrival 20 = .ok (.getfield 42, 3) := by decide +kernel
theorem d_M_arrival_23 : decode b_M_arrival 23 = .ok (.iload_n 1, 1) := by decide +kernel
theorem d_M_arrival_24 : decode b_M_arrival 24 = .ok (.laload, 1) := by decide +kernel
theorem d_M_arrival_25 : decode b_M_arrival 25 = .ok (.lcmp, 1) := by decide +kernel
theorem d_M_arrival_26 : decode b_M_arrival 26 = .ok (.ifCond .ge 7, 3) := by decide +kernel
theorem d_M_arrival_29 : decode b_M_arrival 29 = .ok (.sipush (-2000), 3) := by decide +kernel
theorem d_M_arrival_32 : decode b_M_arrival 32 = .ok (.ireturn, 1) := by decide +kernel
theorem d_M_arrival_33 : decode b_M_arrival 33 = .ok (.aload_n 0, 1) := by decide +kernel
theorem d_M_arrival_34 : decode b_M_arrival 34 = .ok (.getfield 76, 3) := by decide +kernel
theorem d_M_arrival_37 : decode b_M_arrival 37 = .ok (.ifCond .ne 12, 3) := by decide +kernel
theorem d_M_arrival_40 : decode b_M_arrival 40 = .ok (.aload_n 0, 1) := by decide +kernel
theorem d_M_arrival_41 : decode b_M_arrival 41 = .ok (.getfield 33, 3) := by decide +kernel
theorem d_M_arrival_44 : decode b_M_arrival 44 = .ok (.iload_n 1, 1) := by decide +kernel
theorem d_M_arrival_45 : decode b_M_arrival 45 = .ok (.baload, 1) := by decide +kernel
theorem d_M_arrival_46 : decode b_M_arrival 46 = .ok (.ifCond .ne 7, 3) := by decide +kernel
theorem d_M_arrival_49 : decode b_M_arrival 49 = .ok (.sipush (-3000), 3) := by decide +kernel
theorem d_M_arrival_52 : decode b_M_arrival 52 = .ok (.ireturn, 1) := by decide +kernel
theorem d_M_arrival_53 : decode b_M_arrival 53 = .ok (.aload_n 0, 1) := by decide +kernel
theorem d_M_arrival_54 : decode b_M_arrival 54 = .ok (.getfield 42, 3) := by decide +kernel
theorem d_M_arrival_57 : decode b_M_arrival 57 = .ok (.iload_n 1, 1) := by decide +kernel
theorem d_M_arrival_58 : decode b_M_arrival 58 = .ok (.lload_n 2, 1) := by decide +kernel
theorem d_M_arrival_59 : decode b_M_arrival 59 = .ok (.lastore, 1) := by decide +kernel
theorem d_M_arrival_60 : decode b_M_arrival 60 = .ok (.aload_n 0, 1) := by decide +kernel
theorem d_M_arrival_61 : decode b_M_arrival 61 = .ok (.getfield 36, 3) := by decide +kernel
theorem d_M_arrival_64 : decode b_M_arrival 64 = .ok (.iload_n 1, 1) := by decide +kernel
theorem d_M_arrival_65 : decode b_M_arrival 65 = .ok (.baload, 1) := by decide +kernel
theorem d_M_arrival_66 : decode b_M_arrival 66 = .ok (.ifCond .eq 21, 3) := by decide +kernel
theorem d_M_arrival_69 : decode b_M_arrival 69 = .ok (.lload_n 2, 1) := by decide +kernel
theorem d_M_arrival_70 : decode b_M_arrival 70 = .ok (.aload_n 0, 1) := by decide +kernel
theorem d_M_arrival_71 : decode b_M_arrival 71 = .ok (.getfield 39, 3) := by decide +kernel
theorem d_M_arrival_74 : decode b_M_arrival 74 = .ok (.iload_n 1, 1) := by decide +kernel
theorem d_M_arrival_75 : decode b_M_arrival 75 = .ok (.laload, 1) := by decide +kernel
theorem d_M_arrival_76 : decode b_M_arrival 76 = .ok (.lsub, 1) := by decide +kernel
theorem d_M_arrival_77 : decode b_M_arrival 77 = .ok (.aload_n 0, 1) := by decide +kernel
theorem d_M_arrival_78 : decode b_M_arrival 78 = .ok (.getfield 30, 3) := by decide +kernel
theorem d_M_arrival_81 : decode b_M_arrival 81 = .ok (.iload_n 1, 1) := by decide +kernel
theorem d_M_arrival_82 : decode b_M_arrival 82 = .ok (.laload, 1) := by decide +kernel
theorem d_M_arrival_83 : decode b_M_arrival 83 = .ok (.lcmp, 1) := by decide +kernel
theorem d_M_arrival_84 : decode b_M_arrival 84 = .ok (.ifCond .lt 26, 3) := by decide +kernel
theorem d_M_arrival_87 : decode b_M_arrival 87 = .ok (.aload_n 0, 1) := by decide +kernel
theorem d_M_arrival_88 : decode b_M_arrival 88 = .ok (.getfield 36, 3) := by decide +kernel
theorem d_M_arrival_91 : decode b_M_arrival 91 = .ok (.iload_n 1, 1) := by decide +kernel
theorem d_M_arrival_92 : decode b_M_arrival 92 = .ok (.iconst 1, 1) := by decide +kernel
theorem d_M_arrival_93 : decode b_M_arrival 93 = .ok (.bastore, 1) := by decide +kernel
theorem d_M_arrival_94 : decode b_M_arrival 94 = .ok (.aload_n 0, 1) := by decide +kernel
theorem d_M_arrival_95 : decode b_M_arrival 95 = .ok (.getfield 39, 3) := by decide +kernel
theorem d_M_arrival_98 : decode b_M_arrival 98 = .ok (.iload_n 1, 1) := by decide +kernel
theorem d_M_arrival_99 : decode b_M_arrival 99 = .ok (.lload_n 2, 1) := by decide +kernel
theorem d_M_arrival_100 : decode b_M_arrival 100 = .ok (.lastore, 1) := by decide +kernel
theorem d_M_arrival_101 : decode b_M_arrival 101 = .ok (.aload_n 0, 1) := by decide +kernel
theorem d_M_arrival_102 : decode b_M_arrival 102 = .ok (.getfield 45, 3) := by decide +kernel
theorem d_M_arrival_105 : decode b_M_arrival 105 = .ok (.iload_n 1, 1) := by decide +kernel
theorem d_M_arrival_106 : decode b_M_arrival 106 = .ok (.iconst 0, 1) := by decide +kernel
theorem d_M_arrival_107 : decode b_M_arrival 107 = .ok (.bastore, 1) := by decide +kernel
theorem d_M_arrival_108 : decode b_M_arrival 108 = .ok (.iconst 1, 1) := by decide +kernel
theorem d_M_arrival_109 : decode b_M_arrival 109 = .ok (.ireturn, 1) := by decide +kernel
theorem d_M_arrival_110 : decode b_M_arrival 110 = .ok (.aload_n 0, 1) := by decide +kernel
theorem d_M_arrival_111 : decode b_M_arrival 111 = .ok (.getfield 45, 3) := by decide +kernel
theorem d_M_arrival_114 : decode b_M_arrival 114 = .ok (.iload_n 1, 1) := by decide +kernel
theorem d_M_arrival_115 : decode b_M_arrival 115 = .ok (.aload_n 0, 1) := by decide +kernel
theorem d_M_arrival_116 : decode b_M_arrival 116 = .ok (.getfield 45, 3) := by decide +kernel
theorem d_M_arrival_119 : decode b_M_arrival 119 = .ok (.iload_n 1, 1) := by decide +kernel
theorem d_M_arrival_120 : decode b_M_arrival 120 = .ok (.baload, 1) := by decide +kernel
theorem d_M_arrival_121 : decode b_M_arrival 121 = .ok (.ifCond .ne 7, 3) := by decide +kernel
theorem d_M_arrival_124 : decode b_M_arrival 124 = .ok (.iconst 1, 1) := by decide +kernel
theorem d_M_arrival_125 : decode b_M_arrival 125 = .ok (.goto 4, 3) := by decide +kernel
theorem d_M_arrival_128 : decode b_M_arrival 128 = .ok (.iconst 0, 1) := by decide +kernel
theorem d_M_arrival_129 : decode b_M_arrival 129 = .ok (.bastore, 1) := by decide +kernel
theorem d_M_arrival_130 : decode b_M_arrival 130 = .ok (.aload_n 0, 1) := by decide +kernel
theorem d_M_arrival_131 : decode b_M_arrival 131 = .ok (.getfield 45, 3) := by decide +kernel
theorem d_M_arrival_134 : decode b_M_arrival 134 = .ok (.iload_n 1, 1) := by decide +kernel
theorem d_M_arrival_135 : decode b_M_arrival 135 = .ok (.baload, 1) := by decide +kernel
theorem d_M_arrival_136 : decode b_M_arrival 136 = .ok (.ifCond .eq 7, 3) := by decide +kernel
theorem d_M_arrival_139 : decode b_M_arrival 139 = .ok (.iconst 0, 1) := by decide +kernel
theorem d_M_arrival_140 : decode b_M_arrival 140 = .ok (.goto 10, 3) := by decide +kernel
theorem d_M_arrival_143 : decode b_M_arrival 143 = .ok (.aload_n 0, 1) := by decide +kernel
theorem d_M_arrival_144 : decode b_M_arrival 144 = .ok (.iload_n 1, 1) := by decide +kernel
theorem d_M_arrival_145 : decode b_M_arrival 145 = .ok (.iconst 4, 1) := by decide +kernel
theorem d_M_arrival_146 : decode b_M_arrival 146 = .ok (.invokevirtual 110, 3) := by decide +kernel
theorem d_M_arrival_149 : decode b_M_arrival 149 = .ok (.ineg, 1) := by decide +kernel
theorem d_M_arrival_150 : decode b_M_arrival 150 = .ok (.ireturn, 1) := by decide +kernel
theorem d_M_inside_0 : decode b_M_inside 0 = .ok (.iconst 0, 1) := by decide +kernel
theorem d_M_inside_1 : decode b_M_inside 1 = .ok (.istore 4, 2) := by decide +kernel
theorem d_M_inside_3 : decode b_M_inside 3 = .ok (.aload_n 0, 1) := by decide +kernel
theorem d_M_inside_4 : decode b_M_inside 4 = .ok (.getfield 27, 3) := by decide +kernel
theorem d_M_inside_7 : decode b_M_inside 7 = .ok (.iload_n 1, 1) := by decide +kernel
theorem d_M_inside_8 : decode b_M_inside 8 = .ok (.iaload, 1) := by decide +kernel
theorem d_M_inside_9 : decode b_M_inside 9 = .ok (.istore 5, 2) := by decide +kernel
theorem d_M_inside_11 : decode b_M_inside 11 = .ok (.bipush 8, 2) := by decide +kernel
theorem d_M_inside_13 : decode b_M_inside 13 = .ok (.iload 5, 2) := by decide +kernel
theorem d_M_inside_15 : decode b_M_inside 15 = .ok (.imul, 1) := by decide +kernel
theorem d_M_inside_16 : decode b_M_inside 16 = .ok (.istore 6, 2) := by decide +kernel
theorem d_M_inside_18 : decode b_M_inside 18 = .ok (.iload 6, 2) := by decide +kernel
theorem d_M_inside_20 : decode b_M_inside 20 = .ok (.bipush 8, 2) := by decide +kernel
theorem d_M_inside_22 : decode b_M_inside 22 = .ok (.iload 5, 2) := by decide +kernel
theorem d_M_inside_24 : decode b_M_inside 24 = .ok (.imul, 1) := by decide +kernel
theorem d_M_inside_25 : decode b_M_inside 25 = .ok (.aload_n 0, 1) := by decide +kernel
theorem d_M_inside_26 : decode b_M_inside 26 = .ok (.getfield 17, 3) := by decide +kernel
theorem d_M_inside_29 : decode b_M_inside 29 = .ok (.iload 5, 2) := by decide +kernel
theorem d_M_inside_31 : decode b_M_inside 31 = .ok (.iaload, 1) := by decide +kernel
theorem d_M_inside_32 : decode b_M_inside 32 = .ok (.iadd, 1) := by decide +kernel
theorem d_M_inside_33 : decode b_M_inside 33 = .ok (.if_icmp .ge 53, 3) := by decide +kernel
theorem d_M_inside_36 : decode b_M_inside 36 = .ok (.iload 4, 2) := by decide +kernel
theorem d_M_inside_38 : decode b_M_inside 38 = .ok (.ifCond .ne 35, 3) := by decide +kernel
theorem d_M_inside_41 : decode b_M_inside 41 = .ok (.lload_n 2, 1) := by decide +kernel
theorem d_M_inside_42 : decode b_M_inside 42 = .ok (.aload_n 0, 1) := by decide +kernel
theorem d_M_inside_43 : decode b_M_inside 43 = .ok (.getfield 20, 3) := by decide +kernel
theorem d_M_inside_46 : decode b_M_inside 46 = .ok (.iload 6, 2) := by decide +kernel
theorem d_M_inside_48 : decode b_M_inside 48 = .ok (.laload, 1) := by decide +kernel
theorem d_M_inside_49 : decode b_M_inside 49 = .ok (.lcmp, 1) := by decide +kernel
theorem d_M_inside_50 : decode b_M_inside 50 = .ok (.ifCond .lt 27, 3) := by decide +kernel
theorem d_M_inside_53 : decode b_M_inside 53 = .ok (.lload_n 2, 1) := by decide +kernel
theorem d_M_inside_54 : decode b_M_inside 54 = .ok (.aload_n 0, 1) := by decide +kernel
theorem d_M_inside_55 : decode b_M_inside 55 = .ok (.getfield 20, 3) := by decide +kernel
theorem d_M_inside_58 : decode b_M_inside 58 = .ok (.iload 6, 2) := by decide +kernel
theorem d_M_inside_60 : decode b_M_inside 60 = .ok (.laload, 1) := by decide +kernel
theorem d_M_inside_61 : decode b_M_inside 61 = .ok (.aload_n 0, 1) := by decide +kernel
theorem d_M_inside_62 : decode b_M_inside 62 = .ok (.getfield 24, 3) := by decide +kernel
theorem d_M_inside_65 : decode b_M_inside 65 = .ok (.iload 6, 2) := by decide +kernel
theorem d_M_inside_67 : decode b_M_inside 67 = .ok (.laload, 1) := by decide +kernel
theorem d_M_inside_68 : decode b_M_inside 68 = .ok (.ladd, 1) := by decide +kernel
theorem d_M_inside_69 : decode b_M_inside 69 = .ok (.lcmp, 1) := by decide +kernel
theorem d_M_inside_70 : decode b_M_inside 70 = .ok (.ifCond .ge 7, 3) := by decide +kernel
theorem d_M_inside_73 : decode b_M_inside 73 = .ok (.iconst 1, 1) := by decide +kernel
theorem d_M_inside_74 : decode b_M_inside 74 = .ok (.goto 4, 3) := by decide +kernel
theorem d_M_inside_77 : decode b_M_inside 77 = .ok (.iconst 0, 1) := by decide +kernel
theorem d_M_inside_78 : decode b_M_inside 78 = .ok (.istore 4, 2) := by decide +kernel
theorem d_M_inside_80 : decode b_M_inside 80 = .ok (.iinc 6 1, 3) := by decide +kernel
theorem d_M_inside_83 : decode b_M_inside 83 = .ok (.goto (-65), 3) := by decide +kernel
theorem d_M_inside_86 : decode b_M_inside 86 = .ok (.iload 4, 2) := by decide +kernel
theorem d_M_inside_88 : decode b_M_inside 88 = .ok (.ireturn, 1) := by decide +kernel
theorem d_M_trusted_0 : decode b_M_trusted 0 = .ok (.aload_n 0, 1) := by decide +kernel
theorem d_M_trusted_1 : decode b_M_trusted 1 = .ok (.iload_n 1, 1) := by decide +kernel
theorem d_M_trusted_2 : decode b_M_trusted 2 = .ok (.invokevirtual 88, 3) := by decide +kernel
theorem d_M_trusted_5 : decode b_M_trusted 5 = .ok (.ifCond .eq 5, 3) := by decide +kernel
theorem d_M_trusted_8 : decode b_M_trusted 8 = .ok (.iconst (-1), 1) := by decide +kernel
theorem d_M_trusted_9 : decode b_M_trusted 9 = .ok (.ireturn, 1) := by decide +kernel
theorem d_M_trusted_10 : decode b_M_trusted 10 = .ok (.aload_n 0, 1) := by decide +kernel
theorem d_M_trusted_11 : decode b_M_trusted 11 = .ok (.iload_n 1, 1) := by decide +kernel
theorem d_M_trusted_12 : decode b_M_trusted 12 = .ok (.lload_n 2, 1) := by decide +kernel
theorem d_M_trusted_13 : decode b_M_trusted 13 = .ok (.invokevirtual 114, 3) := by decide +kernel
theorem d_M_trusted_16 : decode b_M_trusted 16 = .ok (.ifCond .eq 7, 3) := by decide +kernel
theorem d_M_trusted_19 : decode b_M_trusted 19 = .ok (.iconst 1, 1) := by decide +kernel
theorem d_M_trusted_20 : decode b_M_trusted 20 = .ok (.goto 4, 3) := by decide +kernel
theorem d_M_trusted_23 : decode b_M_trusted 23 = .ok (.iconst 0, 1) := by decide +kernel
theorem d_M_trusted_24 : decode b_M_trusted 24 = .ok (.ireturn, 1) := by decide +kernel
theorem d_M_access_0 : decode b_M_access 0 = .ok (.aload_n 0, 1) := by decide +kernel
theorem d_M_access_1 : decode b_M_access 1 = .ok (.iload_n 1, 1) := by decide +kernel
theorem d_M_access_2 : decode b_M_access 2 = .ok (.invokevirtual 88, 3) := by decide +kernel
theorem d_M_access_5 : decode b_M_access 5 = .ok (.ifCond .eq 7, 3) := by decide +kernel
theorem d_M_access_8 : decode b_M_access 8 = .ok (.sipush (-1000), 3) := by decide +kernel
theorem d_M_access_11 : decode b_M_access 11 = .ok (.ireturn, 1) := by decide +kernel
theorem d_M_access_12 : decode b_M_access 12 = .ok (.aload_n 0, 1) := by decide +kernel
theorem d_M_access_13 : decode b_M_access 13 = .ok (.getfield 76, 3) := by decide +kernel
theorem d_M_access_16 : decode b_M_access 16 = .ok (.ifCond .ne 12, 3) := by decide +kernel
theorem d_M_access_19 : decode b_M_access 19 = .ok (.aload_n 0, 1) := by decide +kernel
theorem d_M_access_20 : decode b_M_access 20 = .ok (.getfield 33, 3) := by decide +kernel
theorem d_M_access_23 : decode b_M_access 23 = .ok (.iload_n 1, 1) := by decide +kernel
theorem d_M_access_24 : decode b_M_access 24 = .ok (.baload, 1) := by decide +kernel
theorem d_M_access_25 : decode b_M_access 25 = .ok (.ifCond .ne 7, 3) := by decide +kernel
theorem d_M_access_28 : decode b_M_access 28 = .ok (.sipush (-3000), 3) := by decide +kernel
theorem d_M_access_31 : decode b_M_access 31 = .ok (.ireturn, 1) := by decide +kernel
theorem d_M_access_32 : decode b_M_access 32 = .ok (.aload_n 0, 1) := by decide +kernel
theorem d_M_access_33 : decode b_M_access 33 = .ok (.iload_n 1, 1) := by decide +kernel
theorem d_M_access_34 : decode b_M_access 34 = .ok (.lload_n 2, 1) := by decide +kernel
theorem d_M_access_35 : decode b_M_access 35 = .ok (.invokevirtual 114, 3) := by decide +kernel
theorem d_M_access_38 : decode b_M_access 38 = .ok (.ifCond .eq 7, 3) := by decide +kernel
theorem d_M_access_41 : decode b_M_access 41 = .ok (.iconst 1, 1) := by decide +kernel
theorem d_M_access_42 : decode b_M_access 42 = .ok (.goto 10, 3) := by decide +kernel
theorem d_M_access_45 : decode b_M_access 45 = .ok (.aload_n 0, 1) := by decide +kernel
theorem d_M_access_46 : decode b_M_access 46 = .ok (.iload_n 1, 1) := by decide +kernel
theorem d_M_access_47 : decode b_M_access 47 = .ok (.iconst 2, 1) := by decide +kernel
theorem d_M_access_48 : decode b_M_access 48 = .ok (.invokevirtual 110, 3) := by decide +kernel
theorem d_M_access_51 : decode b_M_access 51 = .ok (.ineg, 1) := by decide +kernel
theorem d_M_access_52 : decode b_M_access 52 = .ok (.ireturn, 1) := by decide +kernel
theorem d_M_state_0 : decode b_M_state 0 = .ok (.aload_n 0, 1) := by decide +kernel
theorem d_M_state_1 : decode b_M_state 1 = .ok (.iload_n 1, 1) := by decide +kernel
theorem d_M_state_2 : decode b_M_state 2 = .ok (.invokevirtual 80, 3) := by decide +kernel
theorem d_M_state_5 : decode b_M_state 5 = .ok (.ifCond .eq 5, 3) := by decide +kernel
theorem d_M_state_8 : decode b_M_state 8 = .ok (.iconst (-1), 1) := by decide +kernel
theorem d_M_state_9 : decode b_M_state 9 = .ok (.ireturn, 1) := by decide +kernel
theorem d_M_state_10 : decode b_M_state 10 = .ok (.aload_n 0, 1) := by decide +kernel
theorem d_M_state_11 : decode b_M_state 11 = .ok (.getfield 76, 3) := by decide +kernel
theorem d_M_state_14 : decode b_M_state 14 = .ok (.ifCond .eq 7, 3) := by decide +kernel
theorem d_M_state_17 : decode b_M_state 17 = .ok (.iconst 2, 1) := by decide +kernel
theorem d_M_state_18 : decode b_M_state 18 = .ok (.goto 17, 3) := by decide +kernel
theorem d_M_state_21 : decode b_M_state 21 = .ok (.aload_n 0, 1) := by decide +kernel
theorem d_M_state_22 : decode b_M_state 22 = .ok (.getfield 13, 3) := by decide +kernel
theorem d_M_state_25 : decode b_M_state 25 = .ok (.iload_n 1, 1) := by decide +kernel
theorem d_M_state_26 : decode b_M_state 26 = .ok (.baload, 1) := by decide +kernel
theorem d_M_state_27 : decode b_M_state 27 = .ok (.ifCond .eq 7, 3) := by decide +kernel
theorem d_M_state_30 : decode b_M_state 30 = .ok (.iconst 1, 1) := by decide +kernel
theorem d_M_state_31 : decode b_M_state 31 = .ok (.goto 4, 3) := by decide +kernel
theorem d_M_state_34 : decode b_M_state 34 = .ok (.iconst 0, 1) := by decide +kernel
theorem d_M_state_35 : decode b_M_state 35 = .ok (.ireturn, 1) := by decide +kernel
theorem d_M_cleaned_0 : decode b_M_cleaned 0 = .ok (.aload_n 0, 1) := by decide +kernel
theorem d_M_cleaned_1 : decode b_M_cleaned 1 = .ok (.iconst 0, 1) := by decide +kernel
theorem d_M_cleaned_2 : decode b_M_cleaned 2 = .ok (.putfield 66, 3) := by decide +kernel
theorem d_M_cleaned_5 : decode b_M_cleaned 5 = .ok (.iload_n 1, 1) := by decide +kernel
theorem d_M_cleaned_6 : decode b_M_cleaned 6 = .ok (.iconst (-1), 1) := by decide +kernel
theorem d_M_cleaned_7 : decode b_M_cleaned 7 = .ok (.if_icmp .ne 12, 3) := by decide +kernel
theorem d_M_cleaned_10 : decode b_M_cleaned 10 = .ok (.iload_n 2, 1) := by decide +kernel
theorem d_M_cleaned_11 : decode b_M_cleaned 11 = .ok (.ifCond .ne 8, 3) := by decide +kernel
theorem d_M_cleaned_14 : decode b_M_cleaned 14 = .ok (.aload_n 0, 1) := by decide +kernel
theorem d_M_cleaned_15 : decode b_M_cleaned 15 = .ok (.getfield 91, 3) := by decide +kernel
theorem d_M_cleaned_18 : decode b_M_cleaned 18 = .ok (.ireturn, 1) := by decide +kernel
theorem d_M_cleaned_19 : decode b_M_cleaned 19 = .ok (.iload_n 1, 1) := by decide +kernel
theorem d_M_cleaned_20 : decode b_M_cleaned 20 = .ok (.ifCond .lt 18, 3) := by decide +kernel
theorem d_M_cleaned_23 : decode b_M_cleaned 23 = .ok (.iload_n 1, 1) := by decide +kernel
theorem d_M_cleaned_24 : decode b_M_cleaned 24 = .ok (.aload_n 0, 1) := by decide +kernel
theorem d_M_cleaned_25 : decode b_M_cleaned 25 = .ok (.getfield 91, 3) := by decide +kernel
theorem d_M_cleaned_28 : decode b_M_cleaned 28 = .ok (.if_icmp .ge 10, 3) := by decide +kernel
theorem d_M_cleaned_31 : decode b_M_cleaned 31 = .ok (.iload_n 1, 1) := by decide +kernel
theorem d_M_cleaned_32 : decode b_M_cleaned 32 = .ok (.sipush 499, 3) := by decide +kernel
theorem d_M_cleaned_35 : decode b_M_cleaned 35 = .ok (.if_icmp .le 5, 3) := by decide +kernel
theorem d_M_cleaned_38 : decode b_M_cleaned 38 = .ok (.iconst (-1), 1) := by decide +kernel
theorem d_M_cleaned_39 : decode b_M_cleaned 39 = .ok (.ireturn, 1) := by decide +kernel
theorem d_M_cleaned_40 : decode b_M_cleaned 40 = .ok (.iload_n 2, 1) := by decide +kernel
theorem d_M_cleaned_41 : decode b_M_cleaned 41 = .ok (.ifCond .lt 8, 3) := by decide +kernel
theorem d_M_cleaned_44 : decode b_M_cleaned 44 = .ok (.iload_n 2, 1) := by decide +kernel
theorem d_M_cleaned_45 : decode b_M_cleaned 45 = .ok (.iconst 2, 1) := by decide +kernel
theorem d_M_cleaned_46 : decode b_M_cleaned 46 = .ok (.if_icmp .le 6, 3) := by decide +kernel
theorem d_M_cleaned_49 : decode b_M_cleaned 49 = .ok (.bipush (-2), 2) := by decide +kernel
theorem d_M_cleaned_51 : decode b_M_cleaned 51 = .ok (.ireturn, 1) := by decide +kernel
theorem d_M_cleaned_52 : decode b_M_cleaned 52 = .ok (.iload_n 2, 1) := by decide +kernel
theorem d_M_cleaned_53 : decode b_M_cleaned 53 = .ok (.ifCond .ne 12, 3) := by decide +kernel
theorem d_M_cleaned_56 : decode b_M_cleaned 56 = .ok (.aload_n 0, 1) := by decide +kernel
theorem d_M_cleaned_57 : decode b_M_cleaned 57 = .ok (.getfield 57, 3) := by decide +kernel
theorem d_M_cleaned_60 : decode b_M_cleaned 60 = .ok (.iload_n 1, 1) := by decide +kernel
theorem d_M_cleaned_61 : decode b_M_cleaned 61 = .ok (.iaload, 1) := by decide +kernel
theorem d_M_cleaned_62 : decode b_M_cleaned 62 = .ok (.goto 31, 3) := by decide +kernel
theorem d_M_cleaned_65 : decode b_M_cleaned 65 = .ok (.iload_n 2, 1) := by decide +kernel
theorem d_M_cleaned_66 : decode b_M_cleaned 66 = .ok (.iconst 1, 1) := by decide +kernel
theorem d_M_cleaned_67 : decode b_M_cleaned 67 = .ok (.if_icmp .ne 15, 3) := by decide +kernel
theorem d_M_cleaned_70 : decode b_M_cleaned 70 = .ok (.aload_n 0, 1) := by decide +kernel
theorem d_M_cleaned_71 : decode b_M_cleaned 71 = .ok (.getfield 60, 3) := by decide +kernel
theorem d_M_cleaned_74 : decode b_M_cleaned 74 = .ok (.iload_n 1, 1) := by decide +kernel
theorem d_M_cleaned_75 : decode b_M_cleaned 75 = .ok (.iaload, 1) := by decide +kernel
theorem d_M_cleaned_76 : decode b_M_cleaned 76 = .ok (.bipush 32, 2) := by decide +kernel
theorem d_M_cleaned_78 : decode b_M_cleaned 78 = .ok (.idiv, 1) := by decide +kernel
theorem d_M_cleaned_79 : decode b_M_cleaned 79 = .ok (.goto 14, 3) := by decide +kernel
theorem d_M_cleaned_82 : decode b_M_cleaned 82 = .ok (.aload_n 0, 1) := by decide +kernel
theorem d_M_cleaned_83 : decode b_M_cleaned 83 = .ok (.getfield 60, 3) := by decide +kernel
theorem d_M_cleaned_86 : decode b_M_cleaned 86 = .ok (.iload_n 1, 1) := by decide +kernel
theorem d_M_cleaned_87 : decode b_M_cleaned 87 = .ok (.iaload, 1) := by decide +kernel
theorem d_M_cleaned_88 : decode b_M_cleaned 88 = .ok (.bipush 32, 2) := by decide +kernel
theorem d_M_cleaned_90 : decode b_M_cleaned 90 = .ok (.irem, 1) := by decide +kernel
theorem d_M_cleaned_91 : decode b_M_cleaned 91 = .ok (.iconst 1, 1) := by decide +kernel
theorem d_M_cleaned_92 : decode b_M_cleaned 92 = .ok (.iadd, 1) := by decide +kernel
theorem d_M_cleaned_93 : decode b_M_cleaned 93 = .ok (.ireturn, 1) := by decide +kernel
theorem d_M_log_0 : decode b_M_log 0 = .ok (.aload_n 0, 1) := by decide +kernel
theorem d_M_log_1 : decode b_M_log 1 = .ok (.iconst 0, 1) := by decide +kernel
theorem d_M_log_2 : decode b_M_log 2 = .ok (.putfield 66, 3) := by decide +kernel
theorem d_M_log_5 : decode b_M_log 5 = .ok (.iload_n 1, 1) := by decide +kernel
theorem d_M_log_6 : decode b_M_log 6 = .ok (.iconst (-1), 1) := by decide +kernel
theorem d_M_log_7 : decode b_M_log 7 = .ok (.if_icmp .ne 12, 3) := by decide +kernel
theorem d_M_log_10 : decode b_M_log 10 = .ok (.iload_n 2, 1) := by decide +kernel
theorem d_M_log_11 : decode b_M_log 11 = .ok (.ifCond .ne 8, 3) := by decide +kernel
theorem d_M_log_14 : decode b_M_log 14 = .ok (.aload_n 0, 1) := by decide +kernel
theorem d_M_log_15 : decode b_M_log 15 = .ok (.getfield 107, 3) := by decide +kernel
theorem d_M_log_18 : decode b_M_log 18 = .ok (.ireturn, 1) := by decide +kernel
theorem d_M_log_19 : decode b_M_log 19 = .ok (.iload_n 1, 1) := by decide +kernel
theorem d_M_log_20 : decode b_M_log 20 = .ok (.ifCond .lt 18, 3) := by decide +kernel
theorem d_M_log_23 : decode b_M_log 23 = .ok (.iload_n 1, 1) := by decide +kernel
theorem d_M_log_24 : decode b_M_log 24 = .ok (.aload_n 0, 1) := by decide +kernel
theorem d_M_log_25 : decode b_M_log 25 = .ok (.getfield 107, 3) := by decide +kernel
theorem d_M_log_28 : decode b_M_log 28 = .ok (.if_icmp .ge 10, 3) := by decide +kernel
theorem d_M_log_31 : decode b_M_log 31 = .ok (.iload_n 1, 1) := by decide +kernel
theorem d_M_log_32 : decode b_M_log 32 = .ok (.sipush 499, 3) := by decide +kernel
theorem d_M_log_35 : decode b_M_log 35 = .ok (.if_icmp .le 5, 3) := by decide +kernel
theorem d_M_log_38 : decode b_M_log 38 = .ok (.iconst (-1), 1) := by decide +kernel
theorem d_M_log_39 : decode b_M_log 39 = .ok (.ireturn, 1) := by decide +kernel
theorem d_M_log_40 : decode b_M_log 40 = .ok (.iload_n 2, 1) := by decide +kernel
theorem d_M_log_41 : decode b_M_log 41 = .ok (.ifCond .lt 8, 3) := by decide +kernel
theorem d_M_log_44 : decode b_M_log 44 = .ok (.iload_n 2, 1) := by decide +kernel
theorem d_M_log_45 : decode b_M_log 45 = .ok (.iconst 3, 1) := by decide +kernel
theorem d_M_log_46 : decode b_M_log 46 = .ok (.if_icmp .le 8, 3) := by decide +kernel
theorem d_M_log_49 : decode b_M_log 49 = .ok (.bipush (-2), 2) := by decide +kernel
theorem d_M_log_51 : decode b_M_log 51 = .ok (.goto 13, 3) := by decide +kernel
theorem d_M_log_54 : decode b_M_log 54 = .ok (.aload_n 0, 1) := by decide +kernel
theorem d_M_log_55 : decode b_M_log 55 = .ok (.getfield 63, 3) := by decide +kernel
theorem d_M_log_58 : decode b_M_log 58 = .ok (.iconst 4, 1) := by decide +kernel
theorem d_M_log_59 : decode b_M_log 59 = .ok (.iload_n 1, 1) := by decide +kernel
theorem d_M_log_60 : decode b_M_log 60 = .ok (.imul, 1) := by decide +kernel
theorem d_M_log_61 : decode b_M_log 61 = .ok (.iload_n 2, 1) := by decide +kernel
theorem d_M_log_62 : decode b_M_log 62 = .ok (.iadd, 1) := by decide +kernel
theorem d_M_log_63 : decode b_M_log 63 = .ok (.iaload, 1) := by decide +kernel
theorem d_M_log_64 : decode b_M_log 64 = .ok (.ireturn, 1) := by decide +kernel
