theorem d_G_solve_177 : decode b_G_solve 177 = .ok (.getfield 35, 3) := by decide +kernel
theorem d_G_solve_180 : decode b_G_solve 180 = .ok (.iload_n 2, 1) := by decide +kernel
theorem d_G_solve_181 : decode b_G_solve 181 = .ok (.invokevirtual 160, 3) := by decide +kernel
theorem d_G_solve_184 : decode b_G_solve 184 = .ok (.goto 128, 3) := by decide +kernel
theorem d_G_solve_187 : decode b_G_solve 187 = .ok (.aload_n 0, 1) := by decide +kernel
theorem d_G_solve_188 : decode b_G_solve 188 = .ok (.aload_n 3, 1) := by decide +kernel
theorem d_G_solve_189 : decode b_G_solve 189 = .ok (.getfield 132, 3) := by decide +kernel
theorem d_G_solve_192 : decode b_G_solve 192 = .ok (.iload_n 2, 1) := by decide +kernel
theorem d_G_solve_193 : decode b_G_solve 193 = .ok (.invokevirtual 163, 3) := by decide +kernel
theorem d_G_solve_196 : decode b_G_solve 196 = .ok (.goto 116, 3) := by decide +kernel
theorem d_G_solve_199 : decode b_G_solve 199 = .ok (.aload_n 0, 1) := by decide +kernel
theorem d_G_solve_200 : decode b_G_solve 200 = .ok (.aload_n 3, 1) := by decide +kernel
theorem d_G_solve_201 : decode b_G_solve 201 = .ok (.getfield 132, 3) := by decide +kernel
theorem d_G_solve_204 : decode b_G_solve 204 = .ok (.iload_n 2, 1) := by decide +kernel
theorem d_G_solve_205 : decode b_G_solve 205 = .ok (.invokevirtual 166, 3) := by decide +kernel
theorem d_G_solve_208 : decode b_G_solve 208 = .ok (.goto 104, 3) := by decide +kernel
theorem d_G_solve_211 : decode b_G_solve 211 = .ok (.aload_n 0, 1) := by decide +kernel
theorem d_G_solve_212 : decode b_G_solve 212 = .ok (.iload_n 2, 1) := by decide +kernel
theorem d_G_solve_213 : decode b_G_solve 213 = .ok (.invokevirtual 169, 3) := by decide +kernel
theorem d_G_solve_216 : decode b_G_solve 216 = .ok (.goto 96, 3) := by decide +kernel
theorem d_G_solve_219 : decode b_G_solve 219 = .ok (.aload_n 0, 1) := by decide +kernel
theorem d_G_solve_220 : decode b_G_solve 220 = .ok (.aload_n 3, 1) := by decide +kernel
theorem d_G_solve_221 : decode b_G_solve 221 = .ok (.getfield 132, 3) := by decide +kernel
theorem d_G_solve_224 : decode b_G_solve 224 = .ok (.iload_n 2, 1) := by decide +kernel
theorem d_G_solve_225 : decode b_G_solve 225 = .ok (.invokevirtual 172, 3) := by decide +kernel
theorem d_G_solve_228 : decode b_G_solve 228 = .ok (.goto 84, 3) := by decide +kernel
theorem d_G_solve_231 : decode b_G_solve 231 = .ok (.aload_n 0, 1) := by decide +kernel
theorem d_G_solve_232 : decode b_G_solve 232 = .ok (.aload_n 3, 1) := by decide +kernel
theorem d_G_solve_233 : decode b_G_solve 233 = .ok (.iload_n 2, 1) := by decide +kernel
theorem d_G_solve_234 : decode b_G_solve 234 = .ok (.invokevirtual 175, 3) := by decide +kernel
theorem d_G_solve_237 : decode b_G_solve 237 = .ok (.goto 75, 3) := by decide +kernel
theorem d_G_solve_240 : decode b_G_solve 240 = .ok (.aload_n 0, 1) := by decide +kernel
theorem d_G_solve_241 : decode b_G_solve 241 = .ok (.aload_n 3, 1) := by decide +kernel
theorem d_G_solve_242 : decode b_G_solve 242 = .ok (.getfield 132, 3) := by decide +kernel
theorem d_G_solve_245 : decode b_G_solve 245 = .ok (.iload_n 2, 1) := by decide +kernel
theorem d_G_solve_246 : decode b_G_solve 246 = .ok (.invokevirtual 152, 3) := by decide +kernel
theorem d_G_solve_249 : decode b_G_solve 249 = .ok (.aload_n 0, 1) := by decide +kernel
theorem d_G_solve_250 : decode b_G_solve 250 = .ok (.aload_n 3, 1) := by decide +kernel
theorem d_G_solve_251 : decode b_G_solve 251 = .ok (.getfield 135, 3) := by decide +kernel
theorem d_G_solve_254 : decode b_G_solve 254 = .ok (.iload_n 2, 1) := by decide +kernel
theorem d_G_solve_255 : decode b_G_solve 255 = .ok (.invokevirtual 152, 3) := by decide +kernel
theorem d_G_solve_258 : decode b_G_solve 258 = .ok (.goto 54, 3) := by decide +kernel
theorem d_G_solve_261 : decode b_G_solve 261 = .ok (.aload_n 0, 1) := by decide +kernel
theorem d_G_solve_262 : decode b_G_solve 262 = .ok (.aload_n 3, 1) := by decide +kernel
theorem d_G_solve_263 : decode b_G_solve 263 = .ok (.iload_n 2, 1) := by decide +kernel
theorem d_G_solve_264 : decode b_G_solve 264 = .ok (.invokevirtual 179, 3) := by decide +kernel
theorem d_G_solve_267 : decode b_G_solve 267 = .ok (.goto 45, 3) := by decide +kernel
theorem d_G_solve_270 : decode b_G_solve 270 = .ok (.aload_n 0, 1) := by decide +kernel
theorem d_G_solve_271 : decode b_G_solve 271 = .ok (.aload_n 3, 1) := by decide +kernel
theorem d_G_solve_272 : decode b_G_solve 272 = .ok (.iload_n 2, 1) := by decide +kernel
theorem d_G_solve_273 : decode b_G_solve 273 = .ok (.invokevirtual 182, 3) := by decide +kernel
theorem d_G_solve_276 : decode b_G_solve 276 = .ok (.goto 36, 3) := by decide +kernel
theorem d_G_solve_279 : decode b_G_solve 279 = .ok (.aload_n 0, 1) := by decide +kernel
theorem d_G_solve_280 : decode b_G_solve 280 = .ok (.aload_n 3, 1) := by decide +kernel
theorem d_G_solve_281 : decode b_G_solve 281 = .ok (.iload_n 2, 1) := by decide +kernel
theorem d_G_solve_282 : decode b_G_solve 282 = .ok (.invokevirtual 185, 3) := by decide +kernel
theorem d_G_solve_285 : decode b_G_solve 285 = .ok (.goto 27, 3) := by decide +kernel
theorem d_G_solve_288 : decode b_G_solve 288 = .ok (.aload_n 0, 1) := by decide +kernel
theorem d_G_solve_289 : decode b_G_solve 289 = .ok (.aload_n 3, 1) := by decide +kernel
theorem d_G_solve_290 : decode b_G_solve 290 = .ok (.iload_n 2, 1) := by decide +kernel
theorem d_G_solve_291 : decode b_G_solve 291 = .ok (.invokevirtual 188, 3) := by decide +kernel
theorem d_G_solve_294 : decode b_G_solve 294 = .ok (.goto 18, 3) := by decide +kernel
theorem d_G_solve_297 : decode b_G_solve 297 = .ok (.aload_n 0, 1) := by decide +kernel
theorem d_G_solve_298 : decode b_G_solve 298 = .ok (.aload_n 3, 1) := by decide +kernel
theorem d_G_solve_299 : decode b_G_solve 299 = .ok (.iload_n 2, 1) := by decide +kernel
theorem d_G_solve_300 : decode b_G_solve 300 = .ok (.invokevirtual 191, 3) := by decide +kernel
theorem d_G_solve_303 : decode b_G_solve 303 = .ok (.goto 9, 3) := by decide +kernel
theorem d_G_solve_306 : decode b_G_solve 306 = .ok (.aload_n 0, 1) := by decide +kernel
theorem d_G_solve_307 : decode b_G_solve 307 = .ok (.aload_n 3, 1) := by decide +kernel
theorem d_G_solve_308 : decode b_G_solve 308 = .ok (.iload_n 2, 1) := by decide +kernel
theorem d_G_solve_309 : decode b_G_solve 309 = .ok (.invokevirtual 194, 3) := by decide +kernel
theorem d_G_solve_312 : decode b_G_solve 312 = .ok (.return_, 1) := by decide +kernel
theorem d_R_push_0 : decode b_R_push 0 = .ok (.aload_n 0, 1) := by decide +kernel
theorem d_R_push_1 : decode b_R_push 1 = .ok (.getfield 19, 3) := by decide +kernel
theorem d_R_push_4 : decode b_R_push 4 = .ok (.aload_n 0, 1) := by decide +kernel
theorem d_R_push_5 : decode b_R_push 5 = .ok (.getfield 15, 3) := by decide +kernel
theorem d_R_push_8 : decode b_R_push 8 = .ok (.if_icmp .lt 4, 3) := by decide +kernel
theorem d_R_push_11 : decode b_R_push 11 = .ok (.return_, 1) := by decide +kernel
theorem d_R_push_12 : decode b_R_push 12 = .ok (.aload_n 0, 1) := by decide +kernel
theorem d_R_push_13 : decode b_R_push 13 = .ok (.getfield 11, 3) := by decide +kernel
theorem d_R_push_16 : decode b_R_push 16 = .ok (.iload_n 2, 1) := by decide +kernel
theorem d_R_push_17 : decode b_R_push 17 = .ok (.bipush 6, 2) := by decide +kernel
theorem d_R_push_19 : decode b_R_push 19 = .ok (.imul, 1) := by decide +kernel
theorem d_R_push_20 : decode b_R_push 20 = .ok (.aload_n 0, 1) := by decide +kernel
theorem d_R_push_21 : decode b_R_push 21 = .ok (.getfield 11, 3) := by decide +kernel
theorem d_R_push_24 : decode b_R_push 24 = .ok (.aload_n 0, 1) := by decide +kernel
theorem d_R_push_25 : decode b_R_push 25 = .ok (.getfield 19, 3) := by decide +kernel
theorem d_R_push_28 : decode b_R_push 28 = .ok (.bipush 6, 2) := by decide +kernel
theorem d_R_push_30 : decode b_R_push 30 = .ok (.imul, 1) := by decide +kernel
theorem d_R_push_31 : decode b_R_push 31 = .ok (.bipush 6, 2) := by decide +kernel
theorem d_R_push_33 : decode b_R_push 33 = .ok (.invokestatic 22, 3) := by decide +kernel
theorem d_R_push_36 : decode b_R_push 36 = .ok (.aload_n 0, 1) := by decide +kernel
theorem d_R_push_37 : decode b_R_push 37 = .ok (.getfield 11, 3) := by decide +kernel
theorem d_R_push_40 : decode b_R_push 40 = .ok (.aload_n 0, 1) := by decide +kernel
theorem d_R_push_41 : decode b_R_push 41 = .ok (.getfield 19, 3) := by decide +kernel
theorem d_R_push_44 : decode b_R_push 44 = .ok (.bipush 6, 2) := by decide +kernel
theorem d_R_push_46 : decode b_R_push 46 = .ok (.imul, 1) := by decide +kernel
theorem d_R_push_47 : decode b_R_push 47 = .ok (.iload_n 1, 1) := by decide +kernel
theorem d_R_push_48 : decode b_R_push 48 = .ok (.iastore, 1) := by decide +kernel
theorem d_R_push_49 : decode b_R_push 49 = .ok (.aload_n 0, 1) := by decide +kernel
theorem d_R_push_50 : decode b_R_push 50 = .ok (.dup, 1) := by decide +kernel
theorem d_R_push_51 : decode b_R_push 51 = .ok (.getfield 19, 3) := by decide +kernel
theorem d_R_push_54 : decode b_R_push 54 = .ok (.iconst 1, 1) := by decide +kernel
theorem d_R_push_55 : decode b_R_push 55 = .ok (.iadd, 1) := by decide +kernel
theorem d_R_push_56 : decode b_R_push 56 = .ok (.putfield 19, 3) := by decide +kernel
theorem d_R_push_59 : decode b_R_push 59 = .ok (.return_, 1) := by decide +kernel
theorem d_R_variableAt_0 : decode b_R_variableAt 0 = .ok (.aload_n 0, 1) := by decide +kernel
theorem d_R_variableAt_1 : decode b_R_variableAt 1 = .ok (.getfield 11, 3) := by decide +kernel
theorem d_R_variableAt_4 : decode b_R_variableAt 4 = .ok (.iload_n 1, 1) := by decide +kernel
theorem d_R_variableAt_5 : decode b_R_variableAt 5 = .ok (.bipush 6, 2) := by decide +kernel
theorem d_R_variableAt_7 : decode b_R_variableAt 7 = .ok (.imul, 1) := by decide +kernel
theorem d_R_variableAt_8 : decode b_R_variableAt 8 = .ok (.iconst 2, 1) := by decide +kernel
theorem d_R_variableAt_9 : decode b_R_variableAt 9 = .ok (.iadd, 1) := by decide +kernel
theorem d_R_variableAt_10 : decode b_R_variableAt 10 = .ok (.iload_n 2, 1) := by decide +kernel
theorem d_R_variableAt_11 : decode b_R_variableAt 11 = .ok (.iadd, 1) := by decide +kernel
theorem d_R_variableAt_12 : decode b_R_variableAt 12 = .ok (.iaload, 1) := by decide +kernel
theorem d_R_variableAt_13 : decode b_R_variableAt 13 = .ok (.ireturn, 1) := by decide +kernel
theorem d_R_placeAt_0 : decode b_R_placeAt 0 = .ok (.aload_n 0, 1) := by decide +kernel
theorem d_R_placeAt_1 : decode b_R_placeAt 1 = .ok (.getfield 11, 3) := by decide +kernel
theorem d_R_placeAt_4 : decode b_R_placeAt 4 = .ok (.iload_n 1, 1) := by decide +kernel
theorem d_R_placeAt_5 : decode b_R_placeAt 5 = .ok (.bipush 6, 2) := by decide +kernel
theorem d_R_placeAt_7 : decode b_R_placeAt 7 = .ok (.imul, 1) := by decide +kernel
theorem d_R_placeAt_8 : decode b_R_placeAt 8 = .ok (.iconst 1, 1) := by decide +kernel
theorem d_R_placeAt_9 : decode b_R_placeAt 9 = .ok (.iadd, 1) := by decide +kernel
theorem d_R_placeAt_10 : decode b_R_placeAt 10 = .ok (.iaload, 1) := by decide +kernel
theorem d_R_placeAt_11 : decode b_R_placeAt 11 = .ok (.ireturn, 1) := by decide +kernel
theorem d_G_solveOne_0 : decode b_G_solveOne 0 = .ok (.aload_n 0, 1) := by decide +kernel
theorem d_G_solveOne_1 : decode b_G_solveOne 1 = .ok (.getfield 28, 3) := by decide +kernel
theorem d_G_solveOne_4 : decode b_G_solveOne 4 = .ok (.iload_n 2, 1) := by decide +kernel
theorem d_G_solveOne_5 : decode b_G_solveOne 5 = .ok (.invokevirtual 98, 3) := by decide +kernel
theorem d_G_solveOne_8 : decode b_G_solveOne 8 = .ok (.istore_n 3, 1) := by decide +kernel
theorem d_G_solveOne_9 : decode b_G_solveOne 9 = .ok (.aload_n 0, 1) := by decide +kernel
theorem d_G_solveOne_10 : decode b_G_solveOne 10 = .ok (.getfield 12, 3) := by decide +kernel
theorem d_G_solveOne_13 : decode b_G_solveOne 13 = .ok (.iload_n 3, 1) := by decide +kernel
theorem d_G_solveOne_14 : decode b_G_solveOne 14 = .ok (.iload_n 1, 1) := by decide +kernel
theorem d_G_solveOne_15 : decode b_G_solveOne 15 = .ok (.invokevirtual 197, 3) := by decide +kernel
theorem d_G_solveOne_18 : decode b_G_solveOne 18 = .ok (.ifCond .eq 23, 3) := by decide +kernel
theorem d_G_solveOne_21 : decode b_G_solveOne 21 = .ok (.aload_n 0, 1) := by decide +kernel
theorem d_G_solveOne_22 : decode b_G_solveOne 22 = .ok (.getfield 28, 3) := by decide +kernel
theorem d_G_solveOne_25 : decode b_G_solveOne 25 = .ok (.aload_n 0, 1) := by decide +kernel
theorem d_G_solveOne_26 : decode b_G_solveOne 26 = .ok (.getfield 12, 3) := by decide +kernel
theorem d_G_solveOne_29 : decode b_G_solveOne 29 = .ok (.getfield 200, 3) := by decide +kernel
theorem d_G_solveOne_32 : decode b_G_solveOne 32 = .ok (.iload_n 3, 1) := by decide +kernel
theorem d_G_solveOne_33 : decode b_G_solveOne 33 = .ok (.iaload, 1) := by decide +kernel
theorem d_G_solveOne_34 : decode b_G_solveOne 34 = .ok (.iload_n 3, 1) := by decide +kernel
theorem d_G_solveOne_35 : decode b_G_solveOne 35 = .ok (.iconst 1, 1) := by decide +kernel
theorem d_G_solveOne_36 : decode b_G_solveOne 36 = .ok (.iadd, 1) := by decide +kernel
theorem d_G_solveOne_37 : decode b_G_solveOne 37 = .ok (.iload_n 2, 1) := by decide +kernel
theorem d_G_solveOne_38 : decode b_G_solveOne 38 = .ok (.invokevirtual 203, 3) := by decide +kernel
theorem d_G_solveOne_41 : decode b_G_solveOne 41 = .ok (.return_, 1) := by decide +kernel
theorem d_T_isOf_0 : decode b_T_isOf 0 = .ok (.iload_n 1, 1) := by decide +kernel
theorem d_T_isOf_1 : decode b_T_isOf 1 = .ok (.ifCond .lt 28, 3) := by decide +kernel
theorem d_T_isOf_4 : decode b_T_isOf 4 = .ok (.iload_n 1, 1) := by decide +kernel
theorem d_T_isOf_5 : decode b_T_isOf 5 = .ok (.aload_n 0, 1) := by decide +kernel
theorem d_T_isOf_6 : decode b_T_isOf 6 = .ok (.getfield 15, 3) := by decide +kernel
theorem d_T_isOf_9 : decode b_T_isOf 9 = .ok (.if_icmp .ge 20, 3) := by decide +kernel
theorem d_T_isOf_12 : decode b_T_isOf 12 = .ok (.aload_n 0, 1) := by decide +kernel
theorem d_T_isOf_13 : decode b_T_isOf 13 = .ok (.getfield 9, 3) := by decide +kernel
theorem d_T_isOf_16 : decode b_T_isOf 16 = .ok (.iload_n 1, 1) := by decide +kernel
theorem d_T_isOf_17 : decode b_T_isOf 17 = .ok (.iaload, 1) := by decide +kernel
theorem d_T_isOf_18 : decode b_T_isOf 18 = .ok (.iload_n 2, 1) := by decide +kernel
theorem d_T_isOf_19 : decode b_T_isOf 19 = .ok (.invokestatic 19, 3) := by decide +kernel
theorem d_T_isOf_22 : decode b_T_isOf 22 = .ok (.ifCond .eq 7, 3) := by decide +kernel
theorem d_T_isOf_25 : decode b_T_isOf 25 = .ok (.iconst 1, 1) := by decide +kernel
theorem d_T_isOf_26 : decode b_T_isOf 26 = .ok (.goto 4, 3) := by decide +kernel
theorem d_T_isOf_29 : decode b_T_isOf 29 = .ok (.iconst 0, 1) := by decide +kernel
theorem d_T_isOf_30 : decode b_T_isOf 30 = .ok (.ireturn, 1) := by decide +kernel
theorem d_T_isOfSort_0 : decode b_T_isOfSort 0 = .ok (.iload_n 1, 1) := by decide +kernel
theorem d_T_isOfSort_1 : decode b_T_isOfSort 1 = .ok (.tableswitch 85 0 4 #[35, 40, 45, 65, 83], 35) := by decide +kernel
theorem d_T_isOfSort_36 : decode b_T_isOfSort 36 = .ok (.iload_n 0, 1) := by decide +kernel
theorem d_T_isOfSort_37 : decode b_T_isOfSort 37 = .ok (.invokestatic 29, 3) := by decide +kernel
theorem d_T_isOfSort_40 : decode b_T_isOfSort 40 = .ok (.ireturn, 1) := by decide +kernel
theorem d_T_isOfSort_41 : decode b_T_isOfSort 41 = .ok (.iload_n 0, 1) := by decide +kernel
theorem d_T_isOfSort_42 : decode b_T_isOfSort 42 = .ok (.invokestatic 33, 3) := by decide +kernel
theorem d_T_isOfSort_45 : decode b_T_isOfSort 45 = .ok (.ireturn, 1) := by decide +kernel
theorem d_T_isOfSort_46 : decode b_T_isOfSort 46 = .ok (.iload_n 0, 1) := by decide +kernel
theorem d_T_isOfSort_47 : decode b_T_isOfSort 47 = .ok (.invokestatic 33, 3) := by decide +kernel
theorem d_T_isOfSort_50 : decode b_T_isOfSort 50 = .ok (.ifCond .ne 10, 3) := by decide +kernel
theorem d_T_isOfSort_53 : decode b_T_isOfSort 53 = .ok (.iload_n 0, 1) := by decide +kernel
theorem d_T_isOfSort_54 : decode b_T_isOfSort 54 = .ok (.invokestatic 29, 3) := by decide +kernel
theorem d_T_isOfSort_57 : decode b_T_isOfSort 57 = .ok (.ifCond .eq 7, 3) := by decide +kernel
theorem d_T_isOfSort_60 : decode b_T_isOfSort 60 = .ok (.iconst 1, 1) := by decide +kernel
theorem d_T_isOfSort_61 : decode b_T_isOfSort 61 = .ok (.goto 4, 3) := by decide +kernel
theorem d_T_isOfSort_64 : decode b_T_isOfSort 64 = .ok (.iconst 0, 1) := by decide +kernel
theorem d_T_isOfSort_65 : decode b_T_isOfSort 65 = .ok (.ireturn, 1) := by decide +kernel
theorem d_T_isOfSort_66 : decode b_T_isOfSort 66 = .ok (.iload_n 0, 1) := by decide +kernel
theorem d_T_isOfSort_67 : decode b_T_isOfSort 67 = .ok (.bipush 32, 2) := by decide +kernel
theorem d_T_isOfSort_69 : decode b_T_isOfSort 69 = .ok (.if_icmp .eq 9, 3) := by decide +kernel
theorem d_T_isOfSort_72 : decode b_T_isOfSort 72 = .ok (.iload_n 0, 1) := by decide +kernel
theorem d_T_isOfSort_73 : decode b_T_isOfSort 73 = .ok (.bipush 9, 2) := by decide +kernel
theorem d_T_isOfSort_75 : decode b_T_isOfSort 75 = .ok (.if_icmp .ne 7, 3) := by decide +kernel
theorem d_T_isOfSort_78 : decode b_T_isOfSort 78 = .ok (.iconst 1, 1) := by decide +kernel
theorem d_T_isOfSort_79 : decode b_T_isOfSort 79 = .ok (.goto 4, 3) := by decide +kernel
theorem d_T_isOfSort_82 : decode b_T_isOfSort 82 = .ok (.iconst 0, 1) := by decide +kernel
theorem d_T_isOfSort_83 : decode b_T_isOfSort 83 = .ok (.ireturn, 1) := by decide +kernel
theorem d_T_isOfSort_84 : decode b_T_isOfSort 84 = .ok (.iconst 1, 1) := by decide +kernel
theorem d_T_isOfSort_85 : decode b_T_isOfSort 85 = .ok (.ireturn, 1) := by decide +kernel
theorem d_T_isOfSort_86 : decode b_T_isOfSort 86 = .ok (.iload_n 0, 1) := by decide +kernel
theorem d_T_isOfSort_87 : decode b_T_isOfSort 87 = .ok (.iload_n 1, 1) := by decide +kernel
theorem d_T_isOfSort_88 : decode b_T_isOfSort 88 = .ok (.sipush 256, 3) := by decide +kernel
theorem d_T_isOfSort_91 : decode b_T_isOfSort 91 = .ok (.isub, 1) := by decide +kernel
theorem d_T_isOfSort_92 : decode b_T_isOfSort 92 = .ok (.if_icmp .ne 7, 3) := by decide +kernel
theorem d_T_isOfSort_95 : decode b_T_isOfSort 95 = .ok (.iconst 1, 1) := by decide +kernel
theorem d_T_isOfSort_96 : decode b_T_isOfSort 96 = .ok (.goto 4, 3) := by decide +kernel
theorem d_T_isOfSort_99 : decode b_T_isOfSort 99 = .ok (.iconst 0, 1) := by decide +kernel
theorem d_T_isOfSort_100 : decode b_T_isOfSort 100 = .ok (.ireturn, 1) := by decide +kernel
theorem d_T_isDigit_0 : decode b_T_isDigit 0 = .ok (.iload_n 0, 1) := by decide +kernel
theorem d_T_isDigit_1 : decode b_T_isDigit 1 = .ok (.bipush 48, 2) := by decide +kernel
theorem d_T_isDigit_3 : decode b_T_isDigit 3 = .ok (.if_icmp .lt 13, 3) := by decide +kernel
theorem d_T_isDigit_6 : decode b_T_isDigit 6 = .ok (.iload_n 0, 1) := by decide +kernel
theorem d_T_isDigit_7 : decode b_T_isDigit 7 = .ok (.bipush 57, 2) := by decide +kernel
theorem d_T_isDigit_9 : decode b_T_isDigit 9 = .ok (.if_icmp .gt 7, 3) := by decide +kernel
theorem d_T_isDigit_12 : decode b_T_isDigit 12 = .ok (.iconst 1, 1) := by decide +kernel
theorem d_T_isDigit_13 : decode b_T_isDigit 13 = .ok (.goto 4, 3) := by decide +kernel
theorem d_T_isDigit_16 : decode b_T_isDigit 16 = .ok (.iconst 0, 1) := by decide +kernel
theorem d_T_isDigit_17 : decode b_T_isDigit 17 = .ok (.ireturn, 1) := by decide +kernel
theorem d_T_isLetter_0 : decode b_T_isLetter 0 = .ok (.iload_n 0, 1) := by decide +kernel
theorem d_T_isLetter_1 : decode b_T_isLetter 1 = .ok (.bipush 97, 2) := by decide +kernel
theorem d_T_isLetter_3 : decode b_T_isLetter 3 = .ok (.if_icmp .lt 13, 3) := by decide +kernel
theorem d_T_isLetter_6 : decode b_T_isLetter 6 = .ok (.iload_n 0, 1) := by decide +kernel
theorem d_T_isLetter_7 : decode b_T_isLetter 7 = .ok (.bipush 122, 2) := by decide +kernel
theorem d_T_isLetter_9 : decode b_T_isLetter 9 = .ok (.if_icmp .gt 7, 3) := by decide +kernel
theorem d_T_isLetter_12 : decode b_T_isLetter 12 = .ok (.iconst 1, 1) := by decide +kernel
theorem d_T_isLetter_13 : decode b_T_isLetter 13 = .ok (.goto 4, 3) := by decide +kernel
theorem d_T_isLetter_16 : decode b_T_isLetter 16 = .ok (.iconst 0, 1) := by decide +kernel
theorem d_T_isLetter_17 : decode b_T_isLetter 17 = .ok (.ireturn, 1) := by decide +kernel
theorem d_R_pushAtPlace_0 : decode b_R_pushAtPlace 0 = .ok (.aload_n 0, 1) := by decide +kernel
theorem d_R_pushAtPlace_1 : decode b_R_pushAtPlace 1 = .ok (.getfield 19, 3) := by decide +kernel
theorem d_R_pushAtPlace_4 : decode b_R_pushAtPlace 4 = .ok (.istore 4, 2) := by decide +kernel
theorem d_R_pushAtPlace_6 : decode b_R_pushAtPlace 6 = .ok (.aload_n 0, 1) := by decide +kernel
theorem d_R_pushAtPlace_7 : decode b_R_pushAtPlace 7 = .ok (.iload_n 1, 1) := by decide +kernel
theorem d_R_pushAtPlace_8 : decode b_R_pushAtPlace 8 = .ok (.iload_n 3, 1) := by decide +kernel
theorem d_R_pushAtPlace_9 : decode b_R_pushAtPlace 9 = .ok (.invokevirtual 28, 3) := by decide +kernel
theorem d_R_pushAtPlace_12 : decode b_R_pushAtPlace 12 = .ok (.iload 4, 2) := by decide +kernel
theorem d_R_pushAtPlace_14 : decode b_R_pushAtPlace 14 = .ok (.aload_n 0, 1) := by decide +kernel
theorem d_R_pushAtPlace_15 : decode b_R_pushAtPlace 15 = .ok (.getfield 19, 3) := by decide +kernel
theorem d_R_pushAtPlace_18 : decode b_R_pushAtPlace 18 = .ok (.if_icmp .ge 16, 3) := by decide +kernel
theorem d_R_pushAtPlace_21 : decode b_R_pushAtPlace 21 = .ok (.aload_n 0, 1) := by decide +kernel
theorem d_R_pushAtPlace_22 : decode b_R_pushAtPlace 22 = .ok (.getfield 11, 3) := by decide +kernel
theorem d_R_pushAtPlace_25 : decode b_R_pushAtPlace 25 = .ok (.iload 4, 2) := by decide +kernel
theorem d_R_pushAtPlace_27 : decode b_R_pushAtPlace 27 = .ok (.bipush 6, 2) := by decide +kernel
theorem d_R_pushAtPlace_29 : decode b_R_pushAtPlace 29 = .ok (.imul, 1) := by decide +kernel
theorem d_R_pushAtPlace_30 : decode b_R_pushAtPlace 30 = .ok (.iconst 1, 1) := by decide +kernel
theorem d_R_pushAtPlace_31 : decode b_R_pushAtPlace 31 = .ok (.iadd, 1) := by decide +kernel
theorem d_R_pushAtPlace_32 : decode b_R_pushAtPlace 32 = .ok (.iload_n 2, 1) := by decide +kernel
theorem d_R_pushAtPlace_33 : decode b_R_pushAtPlace 33 = .ok (.iastore, 1) := by decide +kernel
theorem d_R_pushAtPlace_34 : decode b_R_pushAtPlace 34 = .ok (.return_, 1) := by decide +kernel
theorem d_G_solveRun_0 : decode b_G_solveRun 0 = .ok (.aload_n 0, 1) := by decide +kernel
theorem d_G_solveRun_1 : decode b_G_solveRun 1 = .ok (.getfield 28, 3) := by decide +kernel
theorem d_G_solveRun_4 : decode b_G_solveRun 4 = .ok (.iload_n 2, 1) := by decide +kernel
theorem d_G_solveRun_5 : decode b_G_solveRun 5 = .ok (.invokevirtual 98, 3) := by decide +kernel
theorem d_G_solveRun_8 : decode b_G_solveRun 8 = .ok (.istore_n 3, 1) := by decide +kernel
theorem d_G_solveRun_9 : decode b_G_solveRun 9 = .ok (.aload_n 0, 1) := by decide +kernel
theorem d_G_solveRun_10 : decode b_G_solveRun 10 = .ok (.getfield 12, 3) := by decide +kernel
theorem d_G_solveRun_13 : decode b_G_solveRun 13 = .ok (.iload_n 3, 1) := by decide +kernel
theorem d_G_solveRun_14 : decode b_G_solveRun 14 = .ok (.iload_n 1, 1) := by decide +kernel
theorem d_G_solveRun_15 : decode b_G_solveRun 15 = .ok (.bipush 24, 2) := by decide +kernel
theorem d_G_solveRun_17 : decode b_G_solveRun 17 = .ok (.invokevirtual 207, 3) := by decide +kernel
theorem d_G_solveRun_20 : decode b_G_solveRun 20 = .ok (.istore 4, 2) := by decide +kernel
theorem d_G_solveRun_22 : decode b_G_solveRun 22 = .ok (.iload 4, 2) := by decide +kernel
theorem d_G_solveRun_24 : decode b_G_solveRun 24 = .ok (.iload_n 3, 1) := by decide +kernel
theorem d_G_solveRun_25 : decode b_G_solveRun 25 = .ok (.if_icmp .le 17, 3) := by decide +kernel
theorem d_G_solveRun_28 : decode b_G_solveRun 28 = .ok (.aload_n 0, 1) := by decide +kernel
theorem d_G_solveRun_29 : decode b_G_solveRun 29 = .ok (.getfield 28, 3) := by decide +kernel
theorem d_G_solveRun_32 : decode b_G_solveRun 32 = .ok (.iload 4, 2) := by decide +kernel
theorem d_G_solveRun_34 : decode b_G_solveRun 34 = .ok (.iload_n 3, 1) := by decide +kernel
theorem d_G_solveRun_35 : decode b_G_solveRun 35 = .ok (.isub, 1) := by decide +kernel
theorem d_G_solveRun_36 : decode b_G_solveRun 36 = .ok (.iload 4, 2) := by decide +kernel
theorem d_G_solveRun_38 : decode b_G_solveRun 38 = .ok (.iload_n 2, 1) := by decide +kernel
theorem d_G_solveRun_39 : decode b_G_solveRun 39 = .ok (.invokevirtual 203, 3) := by decide +kernel
theorem d_G_solveRun_42 : decode b_G_solveRun 42 = .ok (.return_, 1) := by decide +kernel
theorem d_T_behindRun_0 : decode b_T_behindRun 0 = .ok (.aload_n 0, 1) := by decide +kernel
theorem d_T_behindRun_1 : decode b_T_behindRun 1 = .ok (.getfield 15, 3) := by decide +kernel
theorem d_T_behindRun_4 : decode b_T_behindRun 4 = .ok (.iload_n 1, 1) := by decide +kernel
theorem d_T_behindRun_5 : decode b_T_behindRun 5 = .ok (.iload_n 3, 1) := by decide +kernel
theorem d_T_behindRun_6 : decode b_T_behindRun 6 = .ok (.iadd, 1) := by decide +kernel
theorem d_T_behindRun_7 : decode b_T_behindRun 7 = .ok (.invokestatic 23, 3) := by decide +kernel
theorem d_T_behindRun_10 : decode b_T_behindRun 10 = .ok (.istore 4, 2) := by decide +kernel
theorem d_T_behindRun_12 : decode b_T_behindRun 12 = .ok (.iload_n 1, 1) := by decide +kernel
theorem d_T_behindRun_13 : decode b_T_behindRun 13 = .ok (.istore 5, 2) := by decide +kernel
theorem d_T_behindRun_15 : decode b_T_behindRun 15 = .ok (.iload 5, 2) := by decide +kernel
theorem d_T_behindRun_17 : decode b_T_behindRun 17 = .ok (.iload 4, 2) := by decide +kernel
theorem d_T_behindRun_19 : decode b_T_behindRun 19 = .ok (.if_icmp .ge 26, 3) := by decide +kernel
theorem d_T_behindRun_22 : decode b_T_behindRun 22 = .ok (.aload_n 0, 1) := by decide +kernel
theorem d_T_behindRun_23 : decode b_T_behindRun 23 = .ok (.getfield 9, 3) := by decide +kernel
theorem d_T_behindRun_26 : decode b_T_behindRun 26 = .ok (.iload 5, 2) := by decide +kernel
theorem d_T_behindRun_28 : decode b_T_behindRun 28 = .ok (.iaload, 1) := by decide +kernel
theorem d_T_behindRun_29 : decode b_T_behindRun 29 = .ok (.iload_n 2, 1) := by decide +kernel
theorem d_T_behindRun_30 : decode b_T_behindRun 30 = .ok (.invokestatic 19, 3) := by decide +kernel
theorem d_T_behindRun_33 : decode b_T_behindRun 33 = .ok (.ifCond .ne 6, 3) := by decide +kernel
theorem d_T_behindRun_36 : decode b_T_behindRun 36 = .ok (.iload 5, 2) := by decide +kernel
theorem d_T_behindRun_38 : decode b_T_behindRun 38 = .ok (.ireturn, 1) := by decide +kernel
theorem d_T_behindRun_39 : decode b_T_behindRun 39 = .ok (.iinc 5 1, 3) := by decide +kernel
theorem d_T_behindRun_42 : decode b_T_behindRun 42 = .ok (.goto (-27), 3) := by decide +kernel
theorem d_T_behindRun_45 : decode b_T_behindRun 45 = .ok (.iload 4, 2) := by decide +kernel
theorem d_T_behindRun_47 : decode b_T_behindRun 47 = .ok (.ireturn, 1) := by decide +kernel
theorem d_G_solveValue_0 : decode b_G_solveValue 0 = .ok (.aload_n 0, 1) := by decide +kernel
theorem d_G_solveValue_1 : decode b_G_solveValue 1 = .ok (.getfield 28, 3) := by decide +kernel
theorem d_G_solveValue_4 : decode b_G_solveValue 4 = .ok (.iload_n 1, 1) := by decide +kernel
theorem d_G_solveValue_5 : decode b_G_solveValue 5 = .ok (.invokevirtual 98, 3) := by decide +kernel
theorem d_G_solveValue_8 : decode b_G_solveValue 8 = .ok (.istore_n 2, 1) := by decide +kernel
theorem d_G_solveValue_9 : decode b_G_solveValue 9 = .ok (.aload_n 0, 1) := by decide +kernel
theorem d_G_solveValue_10 : decode b_G_solveValue 10 = .ok (.getfield 12, 3) := by decide +kernel
theorem d_G_solveValue_13 : decode b_G_solveValue 13 = .ok (.iload_n 2, 1) := by decide +kernel
theorem d_G_solveValue_14 : decode b_G_solveValue 14 = .ok (.iconst 0, 1) := by decide +kernel
theorem d_G_solveValue_15 : decode b_G_solveValue 15 = .ok (.bipush 9, 2) := by decide +kernel
theorem d_G_solveValue_17 : decode b_G_solveValue 17 = .ok (.invokevirtual 207, 3) := by decide +kernel
theorem d_G_solveValue_20 : decode b_G_solveValue 20 = .ok (.istore_n 3, 1) := by decide +kernel
theorem d_G_solveValue_21 : decode b_G_solveValue 21 = .ok (.iload_n 3, 1) := by decide +kernel
theorem d_G_solveValue_22 : decode b_G_solveValue 22 = .ok (.iload_n 2, 1) := by decide +kernel
theorem d_G_solveValue_23 : decode b_G_solveValue 23 = .ok (.if_icmp .le 21, 3) := by decide +kernel
theorem d_G_solveValue_26 : decode b_G_solveValue 26 = .ok (.aload_n 0, 1) := by decide +kernel
theorem d_G_solveValue_27 : decode b_G_solveValue 27 = .ok (.getfield 28, 3) := by decide +kernel
theorem d_G_solveValue_30 : decode b_G_solveValue 30 = .ok (.aload_n 0, 1) := by decide +kernel
theorem d_G_solveValue_31 : decode b_G_solveValue 31 = .ok (.getfield 12, 3) := by decide +kernel
theorem d_G_solveValue_34 : decode b_G_solveValue 34 = .ok (.iload_n 2, 1) := by decide +kernel
theorem d_G_solveValue_35 : decode b_G_solveValue 35 = .ok (.iload_n 3, 1) := by decide +kernel
theorem d_G_solveValue_36 : decode b_G_solveValue 36 = .ok (.invokevirtual 211, 3) := by decide +kernel
theorem d_G_solveValue_39 : decode b_G_solveValue 39 = .ok (.iload_n 3, 1) := by decide +kernel
theorem d_G_solveValue_40 : decode b_G_solveValue 40 = .ok (.iload_n 1, 1) := by decide +kernel
theorem d_G_solveValue_41 : decode b_G_solveValue 41 = .ok (.invokevirtual 203, 3) := by decide +kernel
theorem d_G_solveValue_44 : decode b_G_solveValue 44 = .ok (.return_, 1) := by decide +kernel
theorem d_T_decimal_0 : decode b_T_decimal 0 = .ok (.iconst 0, 1) := by decide +kernel
theorem d_T_decimal_1 : decode b_T_decimal 1 = .ok (.istore_n 3, 1) := by decide +kernel
theorem d_T_decimal_2 : decode b_T_decimal 2 = .ok (.iload_n 1, 1) := by decide +kernel
theorem d_T_decimal_3 : decode b_T_decimal 3 = .ok (.istore 4, 2) := by decide +kernel
theorem d_T_decimal_5 : decode b_T_decimal 5 = .ok (.iload 4, 2) := by decide +kernel
theorem d_T_decimal_7 : decode b_T_decimal 7 = .ok (.iload_n 2, 1) := by decide +kernel
theorem d_T_decimal_8 : decode b_T_decimal 8 = .ok (.if_icmp .ge 25, 3) := by decide +kernel
theorem d_T_decimal_11 : decode b_T_decimal 11 = .ok (.iload_n 3, 1) := by decide +kernel
theorem d_T_decimal_12 : decode b_T_decimal 12 = .ok (.bipush 10, 2) := by decide +kernel
theorem d_T_decimal_14 : decode b_T_decimal 14 = .ok (.imul, 1) := by decide +kernel
theorem d_T_decimal_15 : decode b_T_decimal 15 = .ok (.aload_n 0, 1) := by decide +kernel
theorem d_T_decimal_16 : decode b_T_decimal 16 = .ok (.getfield 9, 3) := by decide +kernel
theorem d_T_decimal_19 : decode b_T_decimal 19 = .ok (.iload 4, 2) := by decide +kernel
theorem d_T_decimal_21 : decode b_T_decimal 21 = .ok (.iaload, 1) := by decide +kernel
theorem d_T_decimal_22 : decode b_T_decimal 22 = .ok (.iadd, 1) := by decide +kernel
theorem d_T_decimal_23 : decode b_T_decimal 23 = .ok (.bipush 48, 2) := by decide +kernel
theorem d_T_decimal_25 : decode b_T_decimal 25 = .ok (.isub, 1) := by decide +kernel
theorem d_T_decimal_26 : decode b_T_decimal 26 = .ok (.istore_n 3, 1) := by decide +kernel
theorem d_T_decimal_27 : decode b_T_decimal 27 = .ok (.iinc 4 1, 3) := by decide +kernel
theorem d_T_decimal_30 : decode b_T_decimal 30 = .ok (.goto (-25), 3) := by decide +kernel
theorem d_T_decimal_33 : decode b_T_decimal 33 = .ok (.iload_n 3, 1) := by decide +kernel
theorem d_T_decimal_34 : decode b_T_decimal 34 = .ok (.ireturn, 1) := by decide +kernel
theorem d_G_solveSeek_0 : decode b_G_solveSeek 0 = .ok (.iconst 0, 1) := by decide +kernel
theorem d_G_solveSeek_1 : decode b_G_solveSeek 1 = .ok (.istore_n 3, 1) := by decide +kernel
theorem d_G_solveSeek_2 : decode b_G_solveSeek 2 = .ok (.aload_n 0, 1) := by decide +kernel
theorem d_G_solveSeek_3 : decode b_G_solveSeek 3 = .ok (.getfield 28, 3) := by decide +kernel
theorem d_G_solveSeek_6 : decode b_G_solveSeek 6 = .ok (.iload_n 2, 1) := by decide +kernel
theorem d_G_solveSeek_7 : decode b_G_solveSeek 7 = .ok (.invokevirtual 98, 3) := by decide +kernel
theorem d_G_solveSeek_10 : decode b_G_solveSeek 10 = .ok (.istore 4, 2) := by decide +kernel
theorem d_G_solveSeek_12 : decode b_G_solveSeek 12 = .ok (.iload 4, 2) := by decide +kernel
theorem d_G_solveSeek_14 : decode b_G_solveSeek 14 = .ok (.aload_n 0, 1) := by decide +kernel
theorem d_G_solveSeek_15 : decode b_G_solveSeek 15 = .ok (.getfield 12, 3) := by decide +kernel
theorem d_G_solveSeek_18 : decode b_G_solveSeek 18 = .ok (.getfield 35, 3) := by decide +kernel
theorem d_G_solveSeek_21 : decode b_G_solveSeek 21 = .ok (.if_icmp .ge 41, 3) := by decide +kernel
theorem d_G_solveSeek_24 : decode b_G_solveSeek 24 = .ok (.iload_n 3, 1) := by decide +kernel
theorem d_G_solveSeek_25 : decode b_G_solveSeek 25 = .ok (.bipush 8, 2) := by decide +kernel
theorem d_G_solveSeek_27 : decode b_G_solveSeek 27 = .ok (.if_icmp .ge 35, 3) := by decide +kernel
theorem d_G_solveSeek_30 : decode b_G_solveSeek 30 = .ok (.aload_n 0, 1) := by decide +kernel
theorem d_G_solveSeek_31 : decode b_G_solveSeek 31 = .ok (.getfield 12, 3) := by decide +kernel
theorem d_G_solveSeek_34 : decode b_G_solveSeek 34 = .ok (.iload 4, 2) := by decide +kernel
theorem d_G_solveSeek_36 : decode b_G_solveSeek 36 = .ok (.iload_n 1, 1) := by decide +kernel
theorem d_G_solveSeek_37 : decode b_G_solveSeek 37 = .ok (.invokevirtual 197, 3) := by decide +kernel
theorem d_G_solveSeek_40 : decode b_G_solveSeek 40 = .ok (.ifCond .eq 16, 3) := by decide +kernel
theorem d_G_solveSeek_43 : decode b_G_solveSeek 43 = .ok (.aload_n 0, 1) := by decide +kernel
theorem d_G_solveSeek_44 : decode b_G_solveSeek 44 = .ok (.getfield 28, 3) := by decide +kernel
theorem d_G_solveSeek_47 : decode b_G_solveSeek 47 = .ok (.iload 4, 2) := by decide +kernel
theorem d_G_solveSeek_49 : decode b_G_solveSeek 49 = .ok (.iload_n 2, 1) := by decide +kernel
theorem d_G_solveSeek_50 : decode b_G_solveSeek 50 = .ok (.invokevirtual 160, 3) := by decide +kernel
theorem d_G_solveSeek_53 : decode b_G_solveSeek 53 = .ok (.iinc 3 1, 3) := by decide +kernel
theorem d_G_solveSeek_56 : decode b_G_solveSeek 56 = .ok (.iinc 4 1, 3) := by decide +kernel
theorem d_G_solveSeek_59 : decode b_G_solveSeek 59 = .ok (.goto (-47), 3) := by decide +kernel
theorem d_G_solveSeek_62 : decode b_G_solveSeek 62 = .ok (.return_, 1) := by decide +kernel
theorem d_G_solveGo_0 : decode b_G_solveGo 0 = .ok (.aload_n 0, 1) := by decide +kernel
theorem d_G_solveGo_1 : decode b_G_solveGo 1 = .ok (.getfield 28, 3) := by decide +kernel
theorem d_G_solveGo_4 : decode b_G_solveGo 4 = .ok (.getfield 114, 3) := by decide +kernel
theorem d_G_solveGo_7 : decode b_G_solveGo 7 = .ok (.istore_n 3, 1) := by decide +kernel
theorem d_G_solveGo_8 : decode b_G_solveGo 8 = .ok (.aload_n 0, 1) := by decide +kernel
theorem d_G_solveGo_9 : decode b_G_solveGo 9 = .ok (.aload_n 1, 1) := by decide +kernel
theorem d_G_solveGo_10 : decode b_G_solveGo 10 = .ok (.getfield 132, 3) := by decide +kernel
theorem d_G_solveGo_13 : decode b_G_solveGo 13 = .ok (.iload_n 2, 1) := by decide +kernel
theorem d_G_solveGo_14 : decode b_G_solveGo 14 = .ok (.invokevirtual 152, 3) := by decide +kernel
theorem d_G_solveGo_17 : decode b_G_solveGo 17 = .ok (.aload_n 0, 1) := by decide +kernel
theorem d_G_solveGo_18 : decode b_G_solveGo 18 = .ok (.getfield 28, 3) := by decide +kernel
theorem d_G_solveGo_21 : decode b_G_solveGo 21 = .ok (.getfield 114, 3) := by decide +kernel
theorem d_G_solveGo_24 : decode b_G_solveGo 24 = .ok (.istore 4, 2) := by decide +kernel
theorem d_G_solveGo_26 : decode b_G_solveGo 26 = .ok (.iload_n 3, 1) := by decide +kernel
theorem d_G_solveGo_27 : decode b_G_solveGo 27 = .ok (.istore 5, 2) := by decide +kernel
theorem d_G_solveGo_29 : decode b_G_solveGo 29 = .ok (.iload 5, 2) := by decide +kernel
theorem d_G_solveGo_31 : decode b_G_solveGo 31 = .ok (.iload 4, 2) := by decide +kernel
theorem d_G_solveGo_33 : decode b_G_solveGo 33 = .ok (.if_icmp .ge 50, 3) := by decide +kernel
theorem d_G_solveGo_36 : decode b_G_solveGo 36 = .ok (.aload_n 0, 1) := by decide +kernel
theorem d_G_solveGo_37 : decode b_G_solveGo 37 = .ok (.getfield 28, 3) := by decide +kernel
theorem d_G_solveGo_40 : decode b_G_solveGo 40 = .ok (.iload 5, 2) := by decide +kernel
theorem d_G_solveGo_42 : decode b_G_solveGo 42 = .ok (.invokevirtual 92, 3) := by decide +kernel
theorem d_G_solveGo_45 : decode b_G_solveGo 45 = .ok (.istore 6, 2) := by decide +kernel
theorem d_G_solveGo_47 : decode b_G_solveGo 47 = .ok (.iload 6, 2) := by decide +kernel
theorem d_G_solveGo_49 : decode b_G_solveGo 49 = .ok (.ifCond .lt 28, 3) := by decide +kernel
theorem d_G_solveGo_52 : decode b_G_solveGo 52 = .ok (.iload 6, 2) := by decide +kernel
theorem d_G_solveGo_54 : decode b_G_solveGo 54 = .ok (.aload_n 0, 1) := by decide +kernel
theorem d_G_solveGo_55 : decode b_G_solveGo 55 = .ok (.getfield 12, 3) := by decide +kernel
theorem d_G_solveGo_58 : decode b_G_solveGo 58 = .ok (.getfield 35, 3) := by decide +kernel
theorem d_G_solveGo_61 : decode b_G_solveGo 61 = .ok (.if_icmp .gt 16, 3) := by decide +kernel
theorem d_G_solveGo_64 : decode b_G_solveGo 64 = .ok (.aload_n 0, 1) := by decide +kernel
theorem d_G_solveGo_65 : decode b_G_solveGo 65 = .ok (.getfield 28, 3) := by decide +kernel
theorem d_G_solveGo_68 : decode b_G_solveGo 68 = .ok (.iload 6, 2) := by decide +kernel
theorem d_G_solveGo_70 : decode b_G_solveGo 70 = .ok (.iload 6, 2) := by decide +kernel
theorem d_G_solveGo_72 : decode b_G_solveGo 72 = .ok (.iload 5, 2) := by decide +kernel
theorem d_G_solveGo_74 : decode b_G_solveGo 74 = .ok (.invokevirtual 203, 3) := by decide +kernel
theorem d_G_solveGo_77 : decode b_G_solveGo 77 = .ok (.iinc 5 1, 3) := by decide +kernel
theorem d_G_solveGo_80 : decode b_G_solveGo 80 = .ok (.goto (-51), 3) := by decide +kernel
theorem d_G_solveGo_83 : decode b_G_solveGo 83 = .ok (.aload_n 0, 1) := by decide +kernel
theorem d_G_solveGo_84 : decode b_G_solveGo 84 = .ok (.getfield 28, 3) := by decide +kernel
theorem d_G_solveGo_87 : decode b_G_solveGo 87 = .ok (.iload_n 3, 1) := by decide +kernel
theorem d_G_solveGo_88 : decode b_G_solveGo 88 = .ok (.iload 4, 2) := by decide +kernel
theorem d_G_solveGo_90 : decode b_G_solveGo 90 = .ok (.invokevirtual 214, 3) := by decide +kernel
theorem d_G_solveGo_93 : decode b_G_solveGo 93 = .ok (.return_, 1) := by decide +kernel
theorem d_R_intAt_0 : decode b_R_intAt 0 = .ok (.aload_n 0, 1) := by decide +kernel
theorem d_R_intAt_1 : decode b_R_intAt 1 = .ok (.getfield 11, 3) := by decide +kernel
theorem d_R_intAt_4 : decode b_R_intAt 4 = .ok (.iload_n 1, 1) := by decide +kernel
theorem d_R_intAt_5 : decode b_R_intAt 5 = .ok (.bipush 6, 2) := by decide +kernel
theorem d_R_intAt_7 : decode b_R_intAt 7 = .ok (.imul, 1) := by decide +kernel
theorem d_R_intAt_8 : decode b_R_intAt 8 = .ok (.iaload, 1) := by decide +kernel
theorem d_R_intAt_9 : decode b_R_intAt 9 = .ok (.ireturn, 1) := by decide +kernel
theorem d_R_remove_0 : decode b_R_remove 0 = .ok (.aload_n 0, 1) := by decide +kernel
theorem d_R_remove_1 : decode b_R_remove 1 = .ok (.getfield 11, 3) := by decide +kernel
theorem d_R_remove_4 : decode b_R_remove 4 = .ok (.iload_n 2, 1) := by decide +kernel
theorem d_R_remove_5 : decode b_R_remove 5 = .ok (.bipush 6, 2) := by decide +kernel
theorem d_R_remove_7 : decode b_R_remove 7 = .ok (.imul, 1) := by decide +kernel
theorem d_R_remove_8 : decode b_R_remove 8 = .ok (.aload_n 0, 1) := by decide +kernel
theorem d_R_remove_9 : decode b_R_remove 9 = .ok (.getfield 11, 3) := by decide +kernel
theorem d_R_remove_12 : decode b_R_remove 12 = .ok (.iload_n 1, 1) := by decide +kernel
theorem d_R_remove_13 : decode b_R_remove 13 = .ok (.bipush 6, 2) := by decide +kernel
theorem d_R_remove_15 : decode b_R_remove 15 = .ok (.imul, 1) := by decide +kernel
theorem d_R_remove_16 : decode b_R_remove 16 = .ok (.aload_n 0, 1) := by decide +kernel
theorem d_R_remove_17 : decode b_R_remove 17 = .ok (.getfield 19, 3) := by decide +kernel
theorem d_R_remove_20 : decode b_R_remove 20 = .ok (.iload_n 2, 1) := by decide +kernel
theorem d_R_remove_21 : decode b_R_remove 21 = .ok (.isub, 1) := by decide +kernel
theorem d_R_remove_22 : decode b_R_remove 22 = .ok (.bipush 6, 2) := by decide +kernel
theorem d_R_remove_24 : decode b_R_remove 24 = .ok (.imul, 1) := by decide +kernel
theorem d_R_remove_25 : decode b_R_remove 25 = .ok (.invokestatic 22, 3) := by decide +kernel
theorem d_R_remove_28 : decode b_R_remove 28 = .ok (.aload_n 0, 1) := by decide +kernel
theorem d_R_remove_29 : decode b_R_remove 29 = .ok (.dup, 1) := by decide +kernel
theorem d_R_remove_30 : decode b_R_remove 30 = .ok (.getfield 19, 3) := by decide +kernel
theorem d_R_remove_33 : decode b_R_remove 33 = .ok (.iload_n 2, 1) := by decide +kernel
theorem d_R_remove_34 : decode b_R_remove 34 = .ok (.iload_n 1, 1) := by decide +kernel
theorem d_R_remove_35 : decode b_R_remove 35 = .ok (.isub, 1) := by decide +kernel
theorem d_R_remove_36 : decode b_R_remove 36 = .ok (.isub, 1) := by decide +kernel
theorem d_R_remove_37 : decode b_R_remove 37 = .ok (.putfield 19, 3) := by decide +kernel
theorem d_R_remove_40 : decode b_R_remove 40 = .ok (.return_, 1) := by decide +kernel
theorem d_G_solveSet_0 : decode b_G_solveSet 0 = .ok (.aload_n 0, 1) := by decide +kernel
theorem d_G_solveSet_1 : decode b_G_solveSet 1 = .ok (.getfield 28, 3) := by decide +kernel
theorem d_G_solveSet_4 : decode b_G_solveSet 4 = .ok (.getfield 114, 3) := by decide +kernel
theorem d_G_solveSet_7 : decode b_G_solveSet 7 = .ok (.istore_n 3, 1) := by decide +kernel
theorem d_G_solveSet_8 : decode b_G_solveSet 8 = .ok (.aload_n 0, 1) := by decide +kernel
theorem d_G_solveSet_9 : decode b_G_solveSet 9 = .ok (.aload_n 1, 1) := by decide +kernel
theorem d_G_solveSet_10 : decode b_G_solveSet 10 = .ok (.getfield 135, 3) := by decide +kernel
theorem d_G_solveSet_13 : decode b_G_solveSet 13 = .ok (.iload_n 2, 1) := by decide +kernel
theorem d_G_solveSet_14 : decode b_G_solveSet 14 = .ok (.invokevirtual 152, 3) := by decide +kernel
theorem d_G_solveSet_17 : decode b_G_solveSet 17 = .ok (.aload_n 0, 1) := by decide +kernel
theorem d_G_solveSet_18 : decode b_G_solveSet 18 = .ok (.getfield 28, 3) := by decide +kernel
theorem d_G_solveSet_21 : decode b_G_solveSet 21 = .ok (.getfield 114, 3) := by decide +kernel
theorem d_G_solveSet_24 : decode b_G_solveSet 24 = .ok (.istore 4, 2) := by decide +kernel
theorem d_G_solveSet_26 : decode b_G_solveSet 26 = .ok (.iload_n 3, 1) := by decide +kernel
theorem d_G_solveSet_27 : decode b_G_solveSet 27 = .ok (.istore 5, 2) := by decide +kernel
theorem d_G_solveSet_29 : decode b_G_solveSet 29 = .ok (.iload 5, 2) := by decide +kernel
theorem d_G_solveSet_31 : decode b_G_solveSet 31 = .ok (.iload 4, 2) := by decide +kernel
theorem d_G_solveSet_33 : decode b_G_solveSet 33 = .ok (.if_icmp .ge 31, 3) := by decide +kernel
theorem d_G_solveSet_36 : decode b_G_solveSet 36 = .ok (.aload_n 0, 1) := by decide +kernel
theorem d_G_solveSet_37 : decode b_G_solveSet 37 = .ok (.getfield 28, 3) := by decide +kernel
theorem d_G_solveSet_40 : decode b_G_solveSet 40 = .ok (.iload 5, 2) := by decide +kernel
theorem d_G_solveSet_42 : decode b_G_solveSet 42 = .ok (.aload_n 1, 1) := by decide +kernel
theorem d_G_solveSet_43 : decode b_G_solveSet 43 = .ok (.getfield 132, 3) := by decide +kernel
theorem d_G_solveSet_46 : decode b_G_solveSet 46 = .ok (.aload_n 0, 1) := by decide +kernel
theorem d_G_solveSet_47 : decode b_G_solveSet 47 = .ok (.getfield 28, 3) := by decide +kernel
theorem d_G_solveSet_50 : decode b_G_solveSet 50 = .ok (.iload 5, 2) := by decide +kernel
theorem d_G_solveSet_52 : decode b_G_solveSet 52 = .ok (.invokevirtual 92, 3) := by decide +kernel
theorem d_G_solveSet_55 : decode b_G_solveSet 55 = .ok (.invokevirtual 217, 3) := by decide +kernel
theorem d_G_solveSet_58 : decode b_G_solveSet 58 = .ok (.iinc 5 1, 3) := by decide +kernel
theorem d_G_solveSet_61 : decode b_G_solveSet 61 = .ok (.goto (-32), 3) := by decide +kernel
theorem d_G_solveSet_64 : decode b_G_solveSet 64 = .ok (.return_, 1) := by decide +kernel
theorem d_R_putVariable_0 : decode b_R_putVariable 0 = .ok (.aload_n 0, 1) := by decide +kernel
theorem d_R_putVariable_1 : decode b_R_putVariable 1 = .ok (.getfield 11, 3) := by decide +kernel
theorem d_R_putVariable_4 : decode b_R_putVariable 4 = .ok (.iload_n 1, 1) := by decide +kernel
theorem d_R_putVariable_5 : decode b_R_putVariable 5 = .ok (.bipush 6, 2) := by decide +kernel
theorem d_R_putVariable_7 : decode b_R_putVariable 7 = .ok (.imul, 1) := by decide +kernel
theorem d_R_putVariable_8 : decode b_R_putVariable 8 = .ok (.iconst 2, 1) := by decide +kernel
theorem d_R_putVariable_9 : decode b_R_putVariable 9 = .ok (.iadd, 1) := by decide +kernel
theorem d_R_putVariable_10 : decode b_R_putVariable 10 = .ok (.iload_n 2, 1) := by decide +kernel
theorem d_R_putVariable_11 : decode b_R_putVariable 11 = .ok (.iadd, 1) := by decide +kernel
theorem d_R_putVariable_12 : decode b_R_putVariable 12 = .ok (.iload_n 3, 1) := by decide +kernel
theorem d_R_putVariable_13 : decode b_R_putVariable 13 = .ok (.iastore, 1) := by decide +kernel
theorem d_R_putVariable_14 : decode b_R_putVariable 14 = .ok (.return_, 1) := by decide +kernel
theorem d_G_solveFirst_0 : decode b_G_solveFirst 0 = .ok (.aload_n 0, 1) := by decide +kernel
theorem d_G_solveFirst_1 : decode b_G_solveFirst 1 = .ok (.getfield 28, 3) := by decide +kernel
theorem d_G_solveFirst_4 : decode b_G_solveFirst 4 = .ok (.getfield 114, 3) := by decide +kernel
theorem d_G_solveFirst_7 : decode b_G_solveFirst 7 = .ok (.istore_n 3, 1) := by decide +kernel
theorem d_G_solveFirst_8 : decode b_G_solveFirst 8 = .ok (.aload_n 0, 1) := by decide +kernel
theorem d_G_solveFirst_9 : decode b_G_solveFirst 9 = .ok (.aload_n 1, 1) := by decide +kernel
theorem d_G_solveFirst_10 : decode b_G_solveFirst 10 = .ok (.getfield 135, 3) := by decide +kernel
theorem d_G_solveFirst_13 : decode b_G_solveFirst 13 = .ok (.iload_n 2, 1) := by decide +kernel
theorem d_G_solveFirst_14 : decode b_G_solveFirst 14 = .ok (.invokevirtual 152, 3) := by decide +kernel
theorem d_G_solveFirst_17 : decode b_G_solveFirst 17 = .ok (.aload_n 0, 1) := by decide +kernel
theorem d_G_solveFirst_18 : decode b_G_solveFirst 18 = .ok (.getfield 28, 3) := by decide +kernel
theorem d_G_solveFirst_21 : decode b_G_solveFirst 21 = .ok (.aload_n 0, 1) := by decide +kernel
theorem d_G_solveFirst_22 : decode b_G_solveFirst 22 = .ok (.getfield 28, 3) := by decide +kernel
theorem d_G_solveFirst_25 : decode b_G_solveFirst 25 = .ok (.getfield 114, 3) := by decide +kernel
theorem d_G_solveFirst_28 : decode b_G_solveFirst 28 = .ok (.iload_n 3, 1) := by decide +kernel
theorem d_G_solveFirst_29 : decode b_G_solveFirst 29 = .ok (.aload_n 1, 1) := by decide +kernel
theorem d_G_solveFirst_30 : decode b_G_solveFirst 30 = .ok (.getfield 132, 3) := by decide +kernel
theorem d_G_solveFirst_33 : decode b_G_solveFirst 33 = .ok (.iadd, 1) := by decide +kernel
theorem d_G_solveFirst_34 : decode b_G_solveFirst 34 = .ok (.invokestatic 141, 3) := by decide +kernel
theorem d_G_solveFirst_37 : decode b_G_solveFirst 37 = .ok (.putfield 114, 3) := by decide +kernel
theorem d_G_solveFirst_40 : decode b_G_solveFirst 40 = .ok (.return_, 1) := by decide +kernel
theorem d_G_solveIf_0 : decode b_G_solveIf 0 = .ok (.aload_n 0, 1) := by decide +kernel
theorem d_G_solveIf_1 : decode b_G_solveIf 1 = .ok (.getfield 28, 3) := by decide +kernel
theorem d_G_solveIf_4 : decode b_G_solveIf 4 = .ok (.getfield 114, 3) := by decide +kernel
theorem d_G_solveIf_7 : decode b_G_solveIf 7 = .ok (.istore_n 3, 1) := by decide +kernel
theorem d_G_solveIf_8 : decode b_G_solveIf 8 = .ok (.aload_n 0, 1) := by decide +kernel
theorem d_G_solveIf_9 : decode b_G_solveIf 9 = .ok (.aload_n 1, 1) := by decide +kernel
theorem d_G_solveIf_10 : decode b_G_solveIf 10 = .ok (.getfield 132, 3) := by decide +kernel
theorem d_G_solveIf_13 : decode b_G_solveIf 13 = .ok (.iload_n 2, 1) := by decide +kernel
theorem d_G_solveIf_14 : decode b_G_solveIf 14 = .ok (.invokevirtual 152, 3) := by decide +kernel
theorem d_G_solveIf_17 : decode b_G_solveIf 17 = .ok (.aload_n 0, 1) := by decide +kernel
theorem d_G_solveIf_18 : decode b_G_solveIf 18 = .ok (.getfield 28, 3) := by decide +kernel
theorem d_G_solveIf_21 : decode b_G_solveIf 21 = .ok (.getfield 114, 3) := by decide +kernel
theorem d_G_solveIf_24 : decode b_G_solveIf 24 = .ok (.iload_n 3, 1) := by decide +kernel
theorem d_G_solveIf_25 : decode b_G_solveIf 25 = .ok (.if_icmp .ne 13, 3) := by decide +kernel
theorem d_G_solveIf_28 : decode b_G_solveIf 28 = .ok (.aload_n 0, 1) := by decide +kernel
theorem d_G_solveIf_29 : decode b_G_solveIf 29 = .ok (.aload_n 1, 1) := by decide +kernel
theorem d_G_solveIf_30 : decode b_G_solveIf 30 = .ok (.getfield 138, 3) := by decide +kernel
theorem d_G_solveIf_33 : decode b_G_solveIf 33 = .ok (.iload_n 2, 1) := by decide +kernel
theorem d_G_solveIf_34 : decode b_G_solveIf 34 = .ok (.invokevirtual 152, 3) := by decide +kernel
theorem d_G_solveIf_37 : decode b_G_solveIf 37 = .ok (.return_, 1) := by decide +kernel
theorem d_G_solveIf_38 : decode b_G_solveIf 38 = .ok (.aload_n 0, 1) := by decide +kernel
theorem d_G_solveIf_39 : decode b_G_solveIf 39 = .ok (.getfield 28, 3) := by decide +kernel
theorem d_G_solveIf_42 : decode b_G_solveIf 42 = .ok (.iload_n 3, 1) := by decide +kernel
theorem d_G_solveIf_43 : decode b_G_solveIf 43 = .ok (.iconst 1, 1) := by decide +kernel
theorem d_G_solveIf_44 : decode b_G_solveIf 44 = .ok (.iadd, 1) := by decide +kernel
theorem d_G_solveIf_45 : decode b_G_solveIf 45 = .ok (.putfield 114, 3) := by decide +kernel
theorem d_G_solveIf_48 : decode b_G_solveIf 48 = .ok (.aload_n 0, 1) := by decide +kernel
theorem d_G_solveIf_49 : decode b_G_solveIf 49 = .ok (.aload_n 1, 1) := by decide +kernel
theorem d_G_solveIf_50 : decode b_G_solveIf 50 = .ok (.getfield 135, 3) := by decide +kernel
theorem d_G_solveIf_53 : decode b_G_solveIf 53 = .ok (.iload_n 3, 1) := by decide +kernel
theorem d_G_solveIf_54 : decode b_G_solveIf 54 = .ok (.invokevirtual 152, 3) := by decide +kernel
theorem d_G_solveIf_57 : decode b_G_solveIf 57 = .ok (.aload_n 0, 1) := by decide +kernel
theorem d_G_solveIf_58 : decode b_G_solveIf 58 = .ok (.getfield 28, 3) := by decide +kernel
theorem d_G_solveIf_61 : decode b_G_solveIf 61 = .ok (.iload_n 3, 1) := by decide +kernel
theorem d_G_solveIf_62 : decode b_G_solveIf 62 = .ok (.iload_n 3, 1) := by decide +kernel
theorem d_G_solveIf_63 : decode b_G_solveIf 63 = .ok (.iconst 1, 1) := by decide +kernel
theorem d_G_solveIf_64 : decode b_G_solveIf 64 = .ok (.iadd, 1) := by decide +kernel
theorem d_G_solveIf_65 : decode b_G_solveIf 65 = .ok (.invokevirtual 214, 3) := by decide +kernel
theorem d_G_solveIf_68 : decode b_G_solveIf 68 = .ok (.return_, 1) := by decide +kernel
theorem d_G_solveNot_0 : decode b_G_solveNot 0 = .ok (.aload_n 0, 1) := by decide +kernel
theorem d_G_solveNot_1 : decode b_G_solveNot 1 = .ok (.getfield 28, 3) := by decide +kernel
theorem d_G_solveNot_4 : decode b_G_solveNot 4 = .ok (.getfield 114, 3) := by decide +kernel
theorem d_G_solveNot_7 : decode b_G_solveNot 7 = .ok (.istore_n 3, 1) := by decide +kernel
theorem d_G_solveNot_8 : decode b_G_solveNot 8 = .ok (.aload_n 0, 1) := by decide +kernel
theorem d_G_solveNot_9 : decode b_G_solveNot 9 = .ok (.aload_n 1, 1) := by decide +kernel
theorem d_G_solveNot_10 : decode b_G_solveNot 10 = .ok (.getfield 132, 3) := by decide +kernel
theorem d_G_solveNot_13 : decode b_G_solveNot 13 = .ok (.iload_n 2, 1) := by decide +kernel
theorem d_G_solveNot_14 : decode b_G_solveNot 14 = .ok (.invokevirtual 152, 3) := by decide +kernel
theorem d_G_solveNot_17 : decode b_G_solveNot 17 = .ok (.aload_n 0, 1) := by decide +kernel
theorem d_G_solveNot_18 : decode b_G_solveNot 18 = .ok (.getfield 28, 3) := by decide +kernel
theorem d_G_solveNot_21 : decode b_G_solveNot 21 = .ok (.getfield 114, 3) := by decide +kernel
theorem d_G_solveNot_24 : decode b_G_solveNot 24 = .ok (.iload_n 3, 1) := by decide +kernel
theorem d_G_solveNot_25 : decode b_G_solveNot 25 = .ok (.if_icmp .ne 7, 3) := by decide +kernel
theorem d_G_solveNot_28 : decode b_G_solveNot 28 = .ok (.iconst 1, 1) := by decide +kernel
theorem d_G_solveNot_29 : decode b_G_solveNot 29 = .ok (.goto 4, 3) := by decide +kernel
theorem d_G_solveNot_32 : decode b_G_solveNot 32 = .ok (.iconst 0, 1) := by decide +kernel
theorem d_G_solveNot_33 : decode b_G_solveNot 33 = .ok (.istore 4, 2) := by decide +kernel
theorem d_G_solveNot_35 : decode b_G_solveNot 35 = .ok (.aload_n 0, 1) := by decide +kernel
theorem d_G_solveNot_36 : decode b_G_solveNot 36 = .ok (.getfield 28, 3) := by decide +kernel
theorem d_G_solveNot_39 : decode b_G_solveNot 39 = .ok (.iload_n 3, 1) := by decide +kernel
theorem d_G_solveNot_40 : decode b_G_solveNot 40 = .ok (.putfield 114, 3) := by decide +kernel
theorem d_G_solveNot_43 : decode b_G_solveNot 43 = .ok (.iload 4, 2) := by decide +kernel
theorem d_G_solveNot_45 : decode b_G_solveNot 45 = .ok (.ifCond .eq 12, 3) := by decide +kernel
theorem d_G_solveNot_48 : decode b_G_solveNot 48 = .ok (.aload_n 0, 1) := by decide +kernel
theorem d_G_solveNot_49 : decode b_G_solveNot 49 = .ok (.getfield 28, 3) := by decide +kernel
theorem d_G_solveNot_52 : decode b_G_solveNot 52 = .ok (.iconst 0, 1) := by decide +kernel
theorem d_G_solveNot_53 : decode b_G_solveNot 53 = .ok (.iload_n 2, 1) := by decide +kernel
theorem d_G_solveNot_54 : decode b_G_solveNot 54 = .ok (.invokevirtual 160, 3) := by decide +kernel
theorem d_G_solveNot_57 : decode b_G_solveNot 57 = .ok (.return_, 1) := by decide +kernel
theorem d_G_solveMost_0 : decode b_G_solveMost 0 = .ok (.aload_n 0, 1) := by decide +kernel
theorem d_G_solveMost_1 : decode b_G_solveMost 1 = .ok (.getfield 28, 3) := by decide +kernel
theorem d_G_solveMost_4 : decode b_G_solveMost 4 = .ok (.getfield 114, 3) := by decide +kernel
theorem d_G_solveMost_7 : decode b_G_solveMost 7 = .ok (.istore_n 3, 1) := by decide +kernel
theorem d_G_solveMost_8 : decode b_G_solveMost 8 = .ok (.aload_n 0, 1) := by decide +kernel
theorem d_G_solveMost_9 : decode b_G_solveMost 9 = .ok (.aload_n 1, 1) := by decide +kernel
theorem d_G_solveMost_10 : decode b_G_solveMost 10 = .ok (.getfield 132, 3) := by decide +kernel
theorem d_G_solveMost_13 : decode b_G_solveMost 13 = .ok (.iload_n 2, 1) := by decide +kernel
theorem d_G_solveMost_14 : decode b_G_solveMost 14 = .ok (.invokevirtual 152, 3) := by decide +kernel
theorem d_G_solveMost_17 : decode b_G_solveMost 17 = .ok (.aload_n 0, 1) := by decide +kernel
theorem d_G_solveMost_18 : decode b_G_solveMost 18 = .ok (.getfield 28, 3) := by decide +kernel
theorem d_G_solveMost_21 : decode b_G_solveMost 21 = .ok (.getfield 114, 3) := by decide +kernel
theorem d_G_solveMost_24 : decode b_G_solveMost 24 = .ok (.istore 4, 2) := by decide +kernel
theorem d_G_solveMost_26 : decode b_G_solveMost 26 = .ok (.iload 4, 2) := by decide +kernel
theorem d_G_solveMost_28 : decode b_G_solveMost 28 = .ok (.iload_n 3, 1) := by decide +kernel
theorem d_G_solveMost_29 : decode b_G_solveMost 29 = .ok (.if_icmp .ne 4, 3) := by decide +kernel
theorem d_G_solveMost_32 : decode b_G_solveMost 32 = .ok (.return_, 1) := by decide +kernel
theorem d_G_solveMost_33 : decode b_G_solveMost 33 = .ok (.iload_n 3, 1) := by decide +kernel
theorem d_G_solveMost_34 : decode b_G_solveMost 34 = .ok (.istore 5, 2) := by decide +kernel
theorem d_G_solveMost_36 : decode b_G_solveMost 36 = .ok (.iload_n 3, 1) := by decide +kernel
theorem d_G_solveMost_37 : decode b_G_solveMost 37 = .ok (.iconst 1, 1) := by decide +kernel
theorem d_G_solveMost_38 : decode b_G_solveMost 38 = .ok (.iadd, 1) := by decide +kernel
theorem d_G_solveMost_39 : decode b_G_solveMost 39 = .ok (.istore 6, 2) := by decide +kernel
theorem d_G_solveMost_41 : decode b_G_solveMost 41 = .ok (.iload 6, 2) := by decide +kernel
theorem d_G_solveMost_43 : decode b_G_solveMost 43 = .ok (.iload 4, 2) := by decide +kernel
theorem d_G_solveMost_45 : decode b_G_solveMost 45 = .ok (.if_icmp .ge 34, 3) := by decide +kernel
theorem d_G_solveMost_48 : decode b_G_solveMost 48 = .ok (.aload_n 0, 1) := by decide +kernel
theorem d_G_solveMost_49 : decode b_G_solveMost 49 = .ok (.getfield 28, 3) := by decide +kernel
theorem d_G_solveMost_52 : decode b_G_solveMost 52 = .ok (.iload 6, 2) := by decide +kernel
theorem d_G_solveMost_54 : decode b_G_solveMost 54 = .ok (.invokevirtual 92, 3) := by decide +kernel
theorem d_G_solveMost_57 : decode b_G_solveMost 57 = .ok (.aload_n 0, 1) := by decide +kernel
theorem d_G_solveMost_58 : decode b_G_solveMost 58 = .ok (.getfield 28, 3) := by decide +kernel
theorem d_G_solveMost_61 : decode b_G_solveMost 61 = .ok (.iload 5, 2) := by decide +kernel
theorem d_G_solveMost_63 : decode b_G_solveMost 63 = .ok (.invokevirtual 92, 3) := by decide +kernel
theorem d_G_solveMost_66 : decode b_G_solveMost 66 = .ok (.if_icmp .le 7, 3) := by decide +kernel
theorem d_G_solveMost_69 : decode b_G_solveMost 69 = .ok (.iload 6, 2) := by decide +kernel
theorem d_G_solveMost_71 : decode b_G_solveMost 71 = .ok (.istore 5, 2) := by decide +kernel
theorem d_G_solveMost_73 : decode b_G_solveMost 73 = .ok (.iinc 6 1, 3) := by decide +kernel
theorem d_G_solveMost_76 : decode b_G_solveMost 76 = .ok (.goto (-35), 3) := by decide +kernel
theorem d_G_solveMost_79 : decode b_G_solveMost 79 = .ok (.aload_n 0, 1) := by decide +kernel
theorem d_G_solveMost_80 : decode b_G_solveMost 80 = .ok (.getfield 28, 3) := by decide +kernel
theorem d_G_solveMost_83 : decode b_G_solveMost 83 = .ok (.iload 5, 2) := by decide +kernel
theorem d_G_solveMost_85 : decode b_G_solveMost 85 = .ok (.iload_n 3, 1) := by decide +kernel
theorem d_G_solveMost_86 : decode b_G_solveMost 86 = .ok (.invokevirtual 220, 3) := by decide +kernel
theorem d_G_solveMost_89 : decode b_G_solveMost 89 = .ok (.aload_n 0, 1) := by decide +kernel
theorem d_G_solveMost_90 : decode b_G_solveMost 90 = .ok (.getfield 28, 3) := by decide +kernel
theorem d_G_solveMost_93 : decode b_G_solveMost 93 = .ok (.iload_n 3, 1) := by decide +kernel
theorem d_G_solveMost_94 : decode b_G_solveMost 94 = .ok (.iconst 1, 1) := by decide +kernel
theorem d_G_solveMost_95 : decode b_G_solveMost 95 = .ok (.iadd, 1) := by decide +kernel
theorem d_G_solveMost_96 : decode b_G_solveMost 96 = .ok (.putfield 114, 3) := by decide +kernel
theorem d_G_solveMost_99 : decode b_G_solveMost 99 = .ok (.return_, 1) := by decide +kernel
theorem d_R_copy_0 : decode b_R_copy 0 = .ok (.aload_n 0, 1) := by decide +kernel
theorem d_R_copy_1 : decode b_R_copy 1 = .ok (.getfield 11, 3) := by decide +kernel
theorem d_R_copy_4 : decode b_R_copy 4 = .ok (.iload_n 1, 1) := by decide +kernel
theorem d_R_copy_5 : decode b_R_copy 5 = .ok (.bipush 6, 2) := by decide +kernel
theorem d_R_copy_7 : decode b_R_copy 7 = .ok (.imul, 1) := by decide +kernel
theorem d_R_copy_8 : decode b_R_copy 8 = .ok (.aload_n 0, 1) := by decide +kernel
theorem d_R_copy_9 : decode b_R_copy 9 = .ok (.getfield 11, 3) := by decide +kernel
theorem d_R_copy_12 : decode b_R_copy 12 = .ok (.iload_n 2, 1) := by decide +kernel
theorem d_R_copy_13 : decode b_R_copy 13 = .ok (.bipush 6, 2) := by decide +kernel
theorem d_R_copy_15 : decode b_R_copy 15 = .ok (.imul, 1) := by decide +kernel
theorem d_R_copy_16 : decode b_R_copy 16 = .ok (.bipush 6, 2) := by decide +kernel
theorem d_R_copy_18 : decode b_R_copy 18 = .ok (.invokestatic 22, 3) := by decide +kernel
theorem d_R_copy_21 : decode b_R_copy 21 = .ok (.return_, 1) := by decide +kernel
theorem d_G_solvePairs_0 : decode b_G_solvePairs 0 = .ok (.aload_n 0, 1) := by decide +kernel
theorem d_G_solvePairs_1 : decode b_G_solvePairs 1 = .ok (.getfield 28, 3) := by decide +kernel
theorem d_G_solvePairs_4 : decode b_G_solvePairs 4 = .ok (.getfield 114, 3) := by decide +kernel
theorem d_G_solvePairs_7 : decode b_G_solvePairs 7 = .ok (.istore_n 3, 1) := by decide +kernel
theorem d_G_solvePairs_8 : decode b_G_solvePairs 8 = .ok (.aload_n 0, 1) := by decide +kernel
theorem d_G_solvePairs_9 : decode b_G_solvePairs 9 = .ok (.aload_n 1, 1) := by decide +kernel
theorem d_G_solvePairs_10 : decode b_G_solvePairs 10 = .ok (.getfield 132, 3) := by decide +kernel
theorem d_G_solvePairs_13 : decode b_G_solvePairs 13 = .ok (.iload_n 2, 1) := by decide +kernel
theorem d_G_solvePairs_14 : decode b_G_solvePairs 14 = .ok (.invokevirtual 152, 3) := by decide +kernel
theorem d_G_solvePairs_17 : decode b_G_solvePairs 17 = .ok (.aload_n 0, 1) := by decide +kernel
theorem d_G_solvePairs_18 : decode b_G_solvePairs 18 = .ok (.getfield 28, 3) := by decide +kernel
theorem d_G_solvePairs_21 : decode b_G_solvePairs 21 = .ok (.getfield 114, 3) := by decide +kernel
theorem d_G_solvePairs_24 : decode b_G_solvePairs 24 = .ok (.istore 4, 2) := by decide +kernel
theorem d_G_solvePairs_26 : decode b_G_solvePairs 26 = .ok (.iload_n 3, 1) := by decide +kernel
theorem d_G_solvePairs_27 : decode b_G_solvePairs 27 = .ok (.istore 5, 2) := by decide +kernel
theorem d_G_solvePairs_29 : decode b_G_solvePairs 29 = .ok (.iload 5, 2) := by decide +kernel
theorem d_G_solvePairs_31 : decode b_G_solvePairs 31 = .ok (.iload 4, 2) := by decide +kernel
theorem d_G_solvePairs_33 : decode b_G_solvePairs 33 = .ok (.if_icmp .ge 84, 3) := by decide +kernel
theorem d_G_solvePairs_36 : decode b_G_solvePairs 36 = .ok (.aload_n 0, 1) := by decide +kernel
theorem d_G_solvePairs_37 : decode b_G_solvePairs 37 = .ok (.getfield 28, 3) := by decide +kernel
theorem d_G_solvePairs_40 : decode b_G_solvePairs 40 = .ok (.getfield 114, 3) := by decide +kernel
theorem d_G_solvePairs_43 : decode b_G_solvePairs 43 = .ok (.istore 6, 2) := by decide +kernel
theorem d_G_solvePairs_45 : decode b_G_solvePairs 45 = .ok (.aload_n 0, 1) := by decide +kernel
theorem d_G_solvePairs_46 : decode b_G_solvePairs 46 = .ok (.aload_n 1, 1) := by decide +kernel
theorem d_G_solvePairs_47 : decode b_G_solvePairs 47 = .ok (.getfield 135, 3) := by decide +kernel
theorem d_G_solvePairs_50 : decode b_G_solvePairs 50 = .ok (.iload 5, 2) := by decide +kernel
theorem d_G_solvePairs_52 : decode b_G_solvePairs 52 = .ok (.invokevirtual 152, 3) := by decide +kernel
theorem d_G_solvePairs_55 : decode b_G_solvePairs 55 = .ok (.aload_n 0, 1) := by decide +kernel
theorem d_G_solvePairs_56 : decode b_G_solvePairs 56 = .ok (.getfield 28, 3) := by decide +kernel
theorem d_G_solvePairs_59 : decode b_G_solvePairs 59 = .ok (.getfield 114, 3) := by decide +kernel
theorem d_G_solvePairs_62 : decode b_G_solvePairs 62 = .ok (.istore 7, 2) := by decide +kernel
theorem d_G_solvePairs_64 : decode b_G_solvePairs 64 = .ok (.iload 6, 2) := by decide +kernel
theorem d_G_solvePairs_66 : decode b_G_solvePairs 66 = .ok (.istore 8, 2) := by decide +kernel
theorem d_G_solvePairs_68 : decode b_G_solvePairs 68 = .ok (.iload 8, 2) := by decide +kernel
theorem d_G_solvePairs_70 : decode b_G_solvePairs 70 = .ok (.iload 7, 2) := by decide +kernel
theorem d_G_solvePairs_72 : decode b_G_solvePairs 72 = .ok (.if_icmp .ge 28, 3) := by decide +kernel
theorem d_G_solvePairs_75 : decode b_G_solvePairs 75 = .ok (.aload_n 0, 1) := by decide +kernel
theorem d_G_solvePairs_76 : decode b_G_solvePairs 76 = .ok (.aload_n 1, 1) := by decide +kernel
theorem d_G_solvePairs_77 : decode b_G_solvePairs 77 = .ok (.getfield 129, 3) := by decide +kernel
theorem d_G_solvePairs_80 : decode b_G_solvePairs 80 = .ok (.aload_n 0, 1) := by decide +kernel
theorem d_G_solvePairs_81 : decode b_G_solvePairs 81 = .ok (.getfield 28, 3) := by decide +kernel
theorem d_G_solvePairs_84 : decode b_G_solvePairs 84 = .ok (.iload 5, 2) := by decide +kernel
theorem d_G_solvePairs_86 : decode b_G_solvePairs 86 = .ok (.invokevirtual 92, 3) := by decide +kernel
theorem d_G_solvePairs_89 : decode b_G_solvePairs 89 = .ok (.iload 8, 2) := by decide +kernel
theorem d_G_solvePairs_91 : decode b_G_solvePairs 91 = .ok (.invokevirtual 223, 3) := by decide +kernel
theorem d_G_solvePairs_94 : decode b_G_solvePairs 94 = .ok (.iinc 8 1, 3) := by decide +kernel
theorem d_G_solvePairs_97 : decode b_G_solvePairs 97 = .ok (.goto (-29), 3) := by decide +kernel
theorem d_G_solvePairs_100 : decode b_G_solvePairs 100 = .ok (.aload_n 0, 1) := by decide +kernel
theorem d_G_solvePairs_101 : decode b_G_solvePairs 101 = .ok (.getfield 28, 3) := by decide +kernel
theorem d_G_solvePairs_104 : decode b_G_solvePairs 104 = .ok (.iload 6, 2) := by decide +kernel
theorem d_G_solvePairs_106 : decode b_G_solvePairs 106 = .ok (.iload 7, 2) := by decide +kernel
theorem d_G_solvePairs_108 : decode b_G_solvePairs 108 = .ok (.invokevirtual 214, 3) := by decide +kernel
