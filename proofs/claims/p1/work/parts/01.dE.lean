theorem d_E_press_0 : decode prog_3_method_2_code 0 = .ok (.iload_n 1, 1) := by decide +kernel
theorem d_E_press_1 : decode prog_3_method_2_code 1 = .ok (.ldc 53, 2) := by decide +kernel
theorem d_E_press_3 : decode prog_3_method_2_code 3 = .ok (.if_icmp .eq 9, 3) := by decide +kernel
theorem d_E_press_6 : decode prog_3_method_2_code 6 = .ok (.iload_n 1, 1) := by decide +kernel
theorem d_E_press_7 : decode prog_3_method_2_code 7 = .ok (.ldc 54, 2) := by decide +kernel
theorem d_E_press_9 : decode prog_3_method_2_code 9 = .ok (.if_icmp .ne 26, 3) := by decide +kernel
theorem d_E_press_12 : decode prog_3_method_2_code 12 = .ok (.aload_n 0, 1) := by decide +kernel
theorem d_E_press_13 : decode prog_3_method_2_code 13 = .ok (.getfield 55, 3) := by decide +kernel
theorem d_E_press_16 : decode prog_3_method_2_code 16 = .ok (.ifCond .ne 18, 3) := by decide +kernel
theorem d_E_press_19 : decode prog_3_method_2_code 19 = .ok (.aload_n 0, 1) := by decide +kernel
theorem d_E_press_20 : decode prog_3_method_2_code 20 = .ok (.iload_n 1, 1) := by decide +kernel
theorem d_E_press_21 : decode prog_3_method_2_code 21 = .ok (.ldc 53, 2) := by decide +kernel
theorem d_E_press_23 : decode prog_3_method_2_code 23 = .ok (.if_icmp .ne 7, 3) := by decide +kernel
theorem d_E_press_26 : decode prog_3_method_2_code 26 = .ok (.iconst (-1), 1) := by decide +kernel
theorem d_E_press_27 : decode prog_3_method_2_code 27 = .ok (.goto 4, 3) := by decide +kernel
theorem d_E_press_30 : decode prog_3_method_2_code 30 = .ok (.iconst 1, 1) := by decide +kernel
theorem d_E_press_31 : decode prog_3_method_2_code 31 = .ok (.invokevirtual 58, 3) := by decide +kernel
theorem d_E_press_34 : decode prog_3_method_2_code 34 = .ok (.return_, 1) := by decide +kernel
theorem d_E_press_35 : decode prog_3_method_2_code 35 = .ok (.aload_n 0, 1) := by decide +kernel
theorem d_E_press_36 : decode prog_3_method_2_code 36 = .ok (.getfield 55, 3) := by decide +kernel
theorem d_E_press_39 : decode prog_3_method_2_code 39 = .ok (.ifCond .eq 13, 3) := by decide +kernel
theorem d_E_press_42 : decode prog_3_method_2_code 42 = .ok (.iload_n 1, 1) := by decide +kernel
theorem d_E_press_43 : decode prog_3_method_2_code 43 = .ok (.invokestatic 62, 3) := by decide +kernel
theorem d_E_press_46 : decode prog_3_method_2_code 46 = .ok (.ifCond .ne 14, 3) := by decide +kernel
theorem d_E_press_49 : decode prog_3_method_2_code 49 = .ok (.goto 10, 3) := by decide +kernel
theorem d_E_press_52 : decode prog_3_method_2_code 52 = .ok (.iload_n 1, 1) := by decide +kernel
theorem d_E_press_53 : decode prog_3_method_2_code 53 = .ok (.invokestatic 66, 3) := by decide +kernel
theorem d_E_press_56 : decode prog_3_method_2_code 56 = .ok (.ifCond .ne 4, 3) := by decide +kernel
theorem d_E_press_59 : decode prog_3_method_2_code 59 = .ok (.return_, 1) := by decide +kernel
theorem d_E_press_60 : decode prog_3_method_2_code 60 = .ok (.aload_n 0, 1) := by decide +kernel
theorem d_E_press_61 : decode prog_3_method_2_code 61 = .ok (.iconst (-1), 1) := by decide +kernel
theorem d_E_press_62 : decode prog_3_method_2_code 62 = .ok (.putfield 43, 3) := by decide +kernel
theorem d_E_press_65 : decode prog_3_method_2_code 65 = .ok (.iload_n 1, 1) := by decide +kernel
theorem d_E_press_66 : decode prog_3_method_2_code 66 = .ok (.invokestatic 69, 3) := by decide +kernel
theorem d_E_press_69 : decode prog_3_method_2_code 69 = .ok (.ifCond .eq 11, 3) := by decide +kernel
theorem d_E_press_72 : decode prog_3_method_2_code 72 = .ok (.aload_n 0, 1) := by decide +kernel
theorem d_E_press_73 : decode prog_3_method_2_code 73 = .ok (.iload_n 1, 1) := by decide +kernel
theorem d_E_press_74 : decode prog_3_method_2_code 74 = .ok (.invokevirtual 72, 3) := by decide +kernel
theorem d_E_press_77 : decode prog_3_method_2_code 77 = .ok (.goto 8, 3) := by decide +kernel
theorem d_E_press_80 : decode prog_3_method_2_code 80 = .ok (.aload_n 0, 1) := by decide +kernel
theorem d_E_press_81 : decode prog_3_method_2_code 81 = .ok (.iload_n 1, 1) := by decide +kernel
theorem d_E_press_82 : decode prog_3_method_2_code 82 = .ok (.invokevirtual 75, 3) := by decide +kernel
theorem d_E_press_85 : decode prog_3_method_2_code 85 = .ok (.aload_n 0, 1) := by decide +kernel
theorem d_E_press_86 : decode prog_3_method_2_code 86 = .ok (.aload_n 0, 1) := by decide +kernel
theorem d_E_press_87 : decode prog_3_method_2_code 87 = .ok (.getfield 12, 3) := by decide +kernel
theorem d_E_press_90 : decode prog_3_method_2_code 90 = .ok (.aload_n 0, 1) := by decide +kernel
theorem d_E_press_91 : decode prog_3_method_2_code 91 = .ok (.getfield 78, 3) := by decide +kernel
theorem d_E_press_94 : decode prog_3_method_2_code 94 = .ok (.invokevirtual 81, 3) := by decide +kernel
theorem d_E_press_97 : decode prog_3_method_2_code 97 = .ok (.putfield 78, 3) := by decide +kernel
theorem d_E_press_100 : decode prog_3_method_2_code 100 = .ok (.return_, 1) := by decide +kernel
theorem d_E_isCharacter_0 : decode prog_3_method_3_code 0 = .ok (.iload_n 0, 1) := by decide +kernel
theorem d_E_isCharacter_1 : decode prog_3_method_3_code 1 = .ok (.bipush 32, 2) := by decide +kernel
theorem d_E_isCharacter_3 : decode prog_3_method_3_code 3 = .ok (.if_icmp .lt 19, 3) := by decide +kernel
theorem d_E_isCharacter_6 : decode prog_3_method_3_code 6 = .ok (.iload_n 0, 1) := by decide +kernel
theorem d_E_isCharacter_7 : decode prog_3_method_3_code 7 = .ok (.ldc 53, 2) := by decide +kernel
theorem d_E_isCharacter_9 : decode prog_3_method_3_code 9 = .ok (.if_icmp .ge 13, 3) := by decide +kernel
theorem d_E_isCharacter_12 : decode prog_3_method_3_code 12 = .ok (.iload_n 0, 1) := by decide +kernel
theorem d_E_isCharacter_13 : decode prog_3_method_3_code 13 = .ok (.bipush 127, 2) := by decide +kernel
theorem d_E_isCharacter_15 : decode prog_3_method_3_code 15 = .ok (.if_icmp .eq 7, 3) := by decide +kernel
theorem d_E_isCharacter_18 : decode prog_3_method_3_code 18 = .ok (.iconst 1, 1) := by decide +kernel
theorem d_E_isCharacter_19 : decode prog_3_method_3_code 19 = .ok (.goto 4, 3) := by decide +kernel
theorem d_E_isCharacter_22 : decode prog_3_method_3_code 22 = .ok (.iconst 0, 1) := by decide +kernel
theorem d_E_isCharacter_23 : decode prog_3_method_3_code 23 = .ok (.ireturn, 1) := by decide +kernel
theorem d_E_worksWhilePasting_0 : decode prog_3_method_4_code 0 = .ok (.iload_n 0, 1) := by decide +kernel
theorem d_E_worksWhilePasting_1 : decode prog_3_method_4_code 1 = .ok (.invokestatic 69, 3) := by decide +kernel
theorem d_E_worksWhilePasting_4 : decode prog_3_method_4_code 4 = .ok (.ifCond .ne 27, 3) := by decide +kernel
theorem d_E_worksWhilePasting_7 : decode prog_3_method_4_code 7 = .ok (.iload_n 0, 1) := by decide +kernel
theorem d_E_worksWhilePasting_8 : decode prog_3_method_4_code 8 = .ok (.bipush 9, 2) := by decide +kernel
theorem d_E_worksWhilePasting_10 : decode prog_3_method_4_code 10 = .ok (.if_icmp .eq 21, 3) := by decide +kernel
theorem d_E_worksWhilePasting_13 : decode prog_3_method_4_code 13 = .ok (.iload_n 0, 1) := by decide +kernel
theorem d_E_worksWhilePasting_14 : decode prog_3_method_4_code 14 = .ok (.bipush 13, 2) := by decide +kernel
theorem d_E_worksWhilePasting_16 : decode prog_3_method_4_code 16 = .ok (.if_icmp .eq 15, 3) := by decide +kernel
theorem d_E_worksWhilePasting_19 : decode prog_3_method_4_code 19 = .ok (.iload_n 0, 1) := by decide +kernel
theorem d_E_worksWhilePasting_20 : decode prog_3_method_4_code 20 = .ok (.bipush 10, 2) := by decide +kernel
theorem d_E_worksWhilePasting_22 : decode prog_3_method_4_code 22 = .ok (.if_icmp .eq 9, 3) := by decide +kernel
theorem d_E_worksWhilePasting_25 : decode prog_3_method_4_code 25 = .ok (.iload_n 0, 1) := by decide +kernel
theorem d_E_worksWhilePasting_26 : decode prog_3_method_4_code 26 = .ok (.ldc 85, 2) := by decide +kernel
theorem d_E_worksWhilePasting_28 : decode prog_3_method_4_code 28 = .ok (.if_icmp .ne 7, 3) := by decide +kernel
theorem d_E_worksWhilePasting_31 : decode prog_3_method_4_code 31 = .ok (.iconst 1, 1) := by decide +kernel
theorem d_E_worksWhilePasting_32 : decode prog_3_method_4_code 32 = .ok (.goto 4, 3) := by decide +kernel
theorem d_E_worksWhilePasting_35 : decode prog_3_method_4_code 35 = .ok (.iconst 0, 1) := by decide +kernel
theorem d_E_worksWhilePasting_36 : decode prog_3_method_4_code 36 = .ok (.ireturn, 1) := by decide +kernel
theorem d_E_worksOtherwise_0 : decode prog_3_method_5_code 0 = .ok (.iload_n 0, 1) := by decide +kernel
theorem d_E_worksOtherwise_1 : decode prog_3_method_5_code 1 = .ok (.tableswitch 129 0 27 #[127, 129, 129, 129, 129, 129, 129, 129, 127, 127, 127, 129, 127, 127, 129, 129, 129, 129, 129, 129, 129, 129, 129, 127, 129, 127, 127, 127], 127) := by decide +kernel
theorem d_E_worksOtherwise_128 : decode prog_3_method_5_code 128 = .ok (.iconst 1, 1) := by decide +kernel
theorem d_E_worksOtherwise_129 : decode prog_3_method_5_code 129 = .ok (.ireturn, 1) := by decide +kernel
theorem d_E_worksOtherwise_130 : decode prog_3_method_5_code 130 = .ok (.iload_n 0, 1) := by decide +kernel
theorem d_E_worksOtherwise_131 : decode prog_3_method_5_code 131 = .ok (.bipush 32, 2) := by decide +kernel
theorem d_E_worksOtherwise_133 : decode prog_3_method_5_code 133 = .ok (.if_icmp .lt 7, 3) := by decide +kernel
theorem d_E_worksOtherwise_136 : decode prog_3_method_5_code 136 = .ok (.iconst 1, 1) := by decide +kernel
theorem d_E_worksOtherwise_137 : decode prog_3_method_5_code 137 = .ok (.goto 4, 3) := by decide +kernel
theorem d_E_worksOtherwise_140 : decode prog_3_method_5_code 140 = .ok (.iconst 0, 1) := by decide +kernel
theorem d_E_worksOtherwise_141 : decode prog_3_method_5_code 141 = .ok (.ireturn, 1) := by decide +kernel
theorem d_E_command_0 : decode prog_3_method_6_code 0 = .ok (.iload_n 1, 1) := by decide +kernel
theorem d_E_command_1 : decode prog_3_method_6_code 1 = .ok (.lookupswitch 381 #[(0, 309), (8, 189), (9, 155), (10, 173), (12, 328), (13, 164), (23, 336), (25, 343), (26, 358), (27, 320), (127, 189), (65538, 253), (65539, 235), (65540, 273), (65541, 291), (65542, 211), (65543, 365), (65544, 373)], 155) := by decide +kernel
theorem d_E_command_156 : decode prog_3_method_6_code 156 = .ok (.aload_n 0, 1) := by decide +kernel
theorem d_E_command_157 : decode prog_3_method_6_code 157 = .ok (.bipush 9, 2) := by decide +kernel
theorem d_E_command_159 : decode prog_3_method_6_code 159 = .ok (.invokevirtual 72, 3) := by decide +kernel
theorem d_E_command_162 : decode prog_3_method_6_code 162 = .ok (.goto 220, 3) := by decide +kernel
theorem d_E_command_165 : decode prog_3_method_6_code 165 = .ok (.aload_n 0, 1) := by decide +kernel
theorem d_E_command_166 : decode prog_3_method_6_code 166 = .ok (.bipush 10, 2) := by decide +kernel
theorem d_E_command_168 : decode prog_3_method_6_code 168 = .ok (.invokevirtual 72, 3) := by decide +kernel
theorem d_E_command_171 : decode prog_3_method_6_code 171 = .ok (.goto 211, 3) := by decide +kernel
theorem d_E_command_174 : decode prog_3_method_6_code 174 = .ok (.aload_n 0, 1) := by decide +kernel
theorem d_E_command_175 : decode prog_3_method_6_code 175 = .ok (.getfield 55, 3) := by decide +kernel
theorem d_E_command_178 : decode prog_3_method_6_code 178 = .ok (.ifCond .eq 204, 3) := by decide +kernel
theorem d_E_command_181 : decode prog_3_method_6_code 181 = .ok (.aload_n 0, 1) := by decide +kernel
theorem d_E_command_182 : decode prog_3_method_6_code 182 = .ok (.bipush 10, 2) := by decide +kernel
theorem d_E_command_184 : decode prog_3_method_6_code 184 = .ok (.invokevirtual 72, 3) := by decide +kernel
theorem d_E_command_187 : decode prog_3_method_6_code 187 = .ok (.goto 195, 3) := by decide +kernel
theorem d_E_command_190 : decode prog_3_method_6_code 190 = .ok (.aload_n 0, 1) := by decide +kernel
theorem d_E_command_191 : decode prog_3_method_6_code 191 = .ok (.aload_n 0, 1) := by decide +kernel
theorem d_E_command_192 : decode prog_3_method_6_code 192 = .ok (.getfield 12, 3) := by decide +kernel
theorem d_E_command_195 : decode prog_3_method_6_code 195 = .ok (.aload_n 0, 1) := by decide +kernel
theorem d_E_command_196 : decode prog_3_method_6_code 196 = .ok (.getfield 78, 3) := by decide +kernel
theorem d_E_command_199 : decode prog_3_method_6_code 199 = .ok (.invokevirtual 86, 3) := by decide +kernel
theorem d_E_command_202 : decode prog_3_method_6_code 202 = .ok (.aload_n 0, 1) := by decide +kernel
theorem d_E_command_203 : decode prog_3_method_6_code 203 = .ok (.getfield 78, 3) := by decide +kernel
theorem d_E_command_206 : decode prog_3_method_6_code 206 = .ok (.invokevirtual 89, 3) := by decide +kernel
theorem d_E_command_209 : decode prog_3_method_6_code 209 = .ok (.goto 173, 3) := by decide +kernel
theorem d_E_command_212 : decode prog_3_method_6_code 212 = .ok (.aload_n 0, 1) := by decide +kernel
theorem d_E_command_213 : decode prog_3_method_6_code 213 = .ok (.aload_n 0, 1) := by decide +kernel
theorem d_E_command_214 : decode prog_3_method_6_code 214 = .ok (.getfield 78, 3) := by decide +kernel
theorem d_E_command_217 : decode prog_3_method_6_code 217 = .ok (.aload_n 0, 1) := by decide +kernel
theorem d_E_command_218 : decode prog_3_method_6_code 218 = .ok (.getfield 12, 3) := by decide +kernel
theorem d_E_command_221 : decode prog_3_method_6_code 221 = .ok (.aload_n 0, 1) := by decide +kernel
theorem d_E_command_222 : decode prog_3_method_6_code 222 = .ok (.getfield 78, 3) := by decide +kernel
theorem d_E_command_225 : decode prog_3_method_6_code 225 = .ok (.iconst 1, 1) := by decide +kernel
theorem d_E_command_226 : decode prog_3_method_6_code 226 = .ok (.iadd, 1) := by decide +kernel
theorem d_E_command_227 : decode prog_3_method_6_code 227 = .ok (.invokevirtual 81, 3) := by decide +kernel
theorem d_E_command_230 : decode prog_3_method_6_code 230 = .ok (.invokevirtual 89, 3) := by decide +kernel
theorem d_E_command_233 : decode prog_3_method_6_code 233 = .ok (.goto 149, 3) := by decide +kernel
theorem d_E_command_236 : decode prog_3_method_6_code 236 = .ok (.aload_n 0, 1) := by decide +kernel
theorem d_E_command_237 : decode prog_3_method_6_code 237 = .ok (.aload_n 0, 1) := by decide +kernel
theorem d_E_command_238 : decode prog_3_method_6_code 238 = .ok (.getfield 12, 3) := by decide +kernel
theorem d_E_command_241 : decode prog_3_method_6_code 241 = .ok (.aload_n 0, 1) := by decide +kernel
theorem d_E_command_242 : decode prog_3_method_6_code 242 = .ok (.getfield 78, 3) := by decide +kernel
theorem d_E_command_245 : decode prog_3_method_6_code 245 = .ok (.invokevirtual 86, 3) := by decide +kernel
theorem d_E_command_248 : decode prog_3_method_6_code 248 = .ok (.putfield 78, 3) := by decide +kernel
theorem d_E_command_251 : decode prog_3_method_6_code 251 = .ok (.goto 131, 3) := by decide +kernel
theorem d_E_command_254 : decode prog_3_method_6_code 254 = .ok (.aload_n 0, 1) := by decide +kernel
theorem d_E_command_255 : decode prog_3_method_6_code 255 = .ok (.aload_n 0, 1) := by decide +kernel
theorem d_E_command_256 : decode prog_3_method_6_code 256 = .ok (.getfield 12, 3) := by decide +kernel
theorem d_E_command_259 : decode prog_3_method_6_code 259 = .ok (.aload_n 0, 1) := by decide +kernel
theorem d_E_command_260 : decode prog_3_method_6_code 260 = .ok (.getfield 78, 3) := by decide +kernel
theorem d_E_command_263 : decode prog_3_method_6_code 263 = .ok (.iconst 1, 1) := by decide +kernel
theorem d_E_command_264 : decode prog_3_method_6_code 264 = .ok (.iadd, 1) := by decide +kernel
theorem d_E_command_265 : decode prog_3_method_6_code 265 = .ok (.invokevirtual 81, 3) := by decide +kernel
theorem d_E_command_268 : decode prog_3_method_6_code 268 = .ok (.putfield 78, 3) := by decide +kernel
theorem d_E_command_271 : decode prog_3_method_6_code 271 = .ok (.goto 111, 3) := by decide +kernel
theorem d_E_command_274 : decode prog_3_method_6_code 274 = .ok (.aload_n 0, 1) := by decide +kernel
theorem d_E_command_275 : decode prog_3_method_6_code 275 = .ok (.aload_n 0, 1) := by decide +kernel
theorem d_E_command_276 : decode prog_3_method_6_code 276 = .ok (.getfield 12, 3) := by decide +kernel
theorem d_E_command_279 : decode prog_3_method_6_code 279 = .ok (.aload_n 0, 1) := by decide +kernel
theorem d_E_command_280 : decode prog_3_method_6_code 280 = .ok (.getfield 78, 3) := by decide +kernel
theorem d_E_command_283 : decode prog_3_method_6_code 283 = .ok (.invokevirtual 93, 3) := by decide +kernel
theorem d_E_command_286 : decode prog_3_method_6_code 286 = .ok (.putfield 78, 3) := by decide +kernel
theorem d_E_command_289 : decode prog_3_method_6_code 289 = .ok (.goto 93, 3) := by decide +kernel
theorem d_E_command_292 : decode prog_3_method_6_code 292 = .ok (.aload_n 0, 1) := by decide +kernel
theorem d_E_command_293 : decode prog_3_method_6_code 293 = .ok (.aload_n 0, 1) := by decide +kernel
theorem d_E_command_294 : decode prog_3_method_6_code 294 = .ok (.getfield 12, 3) := by decide +kernel
theorem d_E_command_297 : decode prog_3_method_6_code 297 = .ok (.aload_n 0, 1) := by decide +kernel
theorem d_E_command_298 : decode prog_3_method_6_code 298 = .ok (.getfield 78, 3) := by decide +kernel
theorem d_E_command_301 : decode prog_3_method_6_code 301 = .ok (.invokevirtual 96, 3) := by decide +kernel
theorem d_E_command_304 : decode prog_3_method_6_code 304 = .ok (.putfield 78, 3) := by decide +kernel
theorem d_E_command_307 : decode prog_3_method_6_code 307 = .ok (.goto 75, 3) := by decide +kernel
theorem d_E_command_310 : decode prog_3_method_6_code 310 = .ok (.aload_n 0, 1) := by decide +kernel
theorem d_E_command_311 : decode prog_3_method_6_code 311 = .ok (.aload_n 0, 1) := by decide +kernel
theorem d_E_command_312 : decode prog_3_method_6_code 312 = .ok (.getfield 78, 3) := by decide +kernel
theorem d_E_command_315 : decode prog_3_method_6_code 315 = .ok (.putfield 39, 3) := by decide +kernel
theorem d_E_command_318 : decode prog_3_method_6_code 318 = .ok (.goto 64, 3) := by decide +kernel
theorem d_E_command_321 : decode prog_3_method_6_code 321 = .ok (.aload_n 0, 1) := by decide +kernel
theorem d_E_command_322 : decode prog_3_method_6_code 322 = .ok (.iconst (-1), 1) := by decide +kernel
theorem d_E_command_323 : decode prog_3_method_6_code 323 = .ok (.putfield 39, 3) := by decide +kernel
theorem d_E_command_326 : decode prog_3_method_6_code 326 = .ok (.goto 56, 3) := by decide +kernel
theorem d_E_command_329 : decode prog_3_method_6_code 329 = .ok (.aload_n 0, 1) := by decide +kernel
theorem d_E_command_330 : decode prog_3_method_6_code 330 = .ok (.iconst 1, 1) := by decide +kernel
theorem d_E_command_331 : decode prog_3_method_6_code 331 = .ok (.putfield 46, 3) := by decide +kernel
theorem d_E_command_334 : decode prog_3_method_6_code 334 = .ok (.goto 48, 3) := by decide +kernel
theorem d_E_command_337 : decode prog_3_method_6_code 337 = .ok (.aload_n 0, 1) := by decide +kernel
theorem d_E_command_338 : decode prog_3_method_6_code 338 = .ok (.invokevirtual 99, 3) := by decide +kernel
theorem d_E_command_341 : decode prog_3_method_6_code 341 = .ok (.goto 41, 3) := by decide +kernel
theorem d_E_command_344 : decode prog_3_method_6_code 344 = .ok (.aload_n 0, 1) := by decide +kernel
theorem d_E_command_345 : decode prog_3_method_6_code 345 = .ok (.aload_n 0, 1) := by decide +kernel
theorem d_E_command_346 : decode prog_3_method_6_code 346 = .ok (.getfield 32, 3) := by decide +kernel
theorem d_E_command_349 : decode prog_3_method_6_code 349 = .ok (.aload_n 0, 1) := by decide +kernel
theorem d_E_command_350 : decode prog_3_method_6_code 350 = .ok (.getfield 102, 3) := by decide +kernel
theorem d_E_command_353 : decode prog_3_method_6_code 353 = .ok (.invokevirtual 105, 3) := by decide +kernel
theorem d_E_command_356 : decode prog_3_method_6_code 356 = .ok (.goto 26, 3) := by decide +kernel
theorem d_E_command_359 : decode prog_3_method_6_code 359 = .ok (.aload_n 0, 1) := by decide +kernel
theorem d_E_command_360 : decode prog_3_method_6_code 360 = .ok (.invokevirtual 109, 3) := by decide +kernel
theorem d_E_command_363 : decode prog_3_method_6_code 363 = .ok (.goto 19, 3) := by decide +kernel
theorem d_E_command_366 : decode prog_3_method_6_code 366 = .ok (.aload_n 0, 1) := by decide +kernel
theorem d_E_command_367 : decode prog_3_method_6_code 367 = .ok (.iconst 1, 1) := by decide +kernel
theorem d_E_command_368 : decode prog_3_method_6_code 368 = .ok (.putfield 55, 3) := by decide +kernel
theorem d_E_command_371 : decode prog_3_method_6_code 371 = .ok (.goto 11, 3) := by decide +kernel
theorem d_E_command_374 : decode prog_3_method_6_code 374 = .ok (.aload_n 0, 1) := by decide +kernel
theorem d_E_command_375 : decode prog_3_method_6_code 375 = .ok (.iconst 0, 1) := by decide +kernel
theorem d_E_command_376 : decode prog_3_method_6_code 376 = .ok (.putfield 55, 3) := by decide +kernel
theorem d_E_command_379 : decode prog_3_method_6_code 379 = .ok (.goto 3, 3) := by decide +kernel
theorem d_E_command_382 : decode prog_3_method_6_code 382 = .ok (.return_, 1) := by decide +kernel
theorem d_E_insertOne_0 : decode prog_3_method_7_code 0 = .ok (.aload_n 0, 1) := by decide +kernel
theorem d_E_insertOne_1 : decode prog_3_method_7_code 1 = .ok (.getfield 36, 3) := by decide +kernel
theorem d_E_insertOne_4 : decode prog_3_method_7_code 4 = .ok (.iconst 0, 1) := by decide +kernel
theorem d_E_insertOne_5 : decode prog_3_method_7_code 5 = .ok (.iload_n 1, 1) := by decide +kernel
theorem d_E_insertOne_6 : decode prog_3_method_7_code 6 = .ok (.iastore, 1) := by decide +kernel
theorem d_E_insertOne_7 : decode prog_3_method_7_code 7 = .ok (.aload_n 0, 1) := by decide +kernel
theorem d_E_insertOne_8 : decode prog_3_method_7_code 8 = .ok (.aload_n 0, 1) := by decide +kernel
theorem d_E_insertOne_9 : decode prog_3_method_7_code 9 = .ok (.getfield 36, 3) := by decide +kernel
theorem d_E_insertOne_12 : decode prog_3_method_7_code 12 = .ok (.iconst 1, 1) := by decide +kernel
theorem d_E_insertOne_13 : decode prog_3_method_7_code 13 = .ok (.invokevirtual 105, 3) := by decide +kernel
theorem d_E_insertOne_16 : decode prog_3_method_7_code 16 = .ok (.return_, 1) := by decide +kernel
theorem d_E_insert_0 : decode prog_3_method_8_code 0 = .ok (.iload_n 2, 1) := by decide +kernel
theorem d_E_insert_1 : decode prog_3_method_8_code 1 = .ok (.ifCond .eq 14, 3) := by decide +kernel
theorem d_E_insert_4 : decode prog_3_method_8_code 4 = .ok (.aload_n 0, 1) := by decide +kernel
theorem d_E_insert_5 : decode prog_3_method_8_code 5 = .ok (.getfield 12, 3) := by decide +kernel
theorem d_E_insert_8 : decode prog_3_method_8_code 8 = .ok (.iload_n 2, 1) := by decide +kernel
theorem d_E_insert_9 : decode prog_3_method_8_code 9 = .ok (.invokevirtual 112, 3) := by decide +kernel
theorem d_E_insert_12 : decode prog_3_method_8_code 12 = .ok (.ifCond .ne 4, 3) := by decide +kernel
theorem d_E_insert_15 : decode prog_3_method_8_code 15 = .ok (.return_, 1) := by decide +kernel
theorem d_E_insert_16 : decode prog_3_method_8_code 16 = .ok (.aload_n 0, 1) := by decide +kernel
theorem d_E_insert_17 : decode prog_3_method_8_code 17 = .ok (.getfield 21, 3) := by decide +kernel
theorem d_E_insert_20 : decode prog_3_method_8_code 20 = .ok (.aload_n 0, 1) := by decide +kernel
theorem d_E_insert_21 : decode prog_3_method_8_code 21 = .ok (.getfield 78, 3) := by decide +kernel
theorem d_E_insert_24 : decode prog_3_method_8_code 24 = .ok (.iload_n 2, 1) := by decide +kernel
theorem d_E_insert_25 : decode prog_3_method_8_code 25 = .ok (.invokevirtual 115, 3) := by decide +kernel
theorem d_E_insert_28 : decode prog_3_method_8_code 28 = .ok (.aload_n 0, 1) := by decide +kernel
theorem d_E_insert_29 : decode prog_3_method_8_code 29 = .ok (.getfield 12, 3) := by decide +kernel
theorem d_E_insert_32 : decode prog_3_method_8_code 32 = .ok (.aload_n 0, 1) := by decide +kernel
theorem d_E_insert_33 : decode prog_3_method_8_code 33 = .ok (.getfield 78, 3) := by decide +kernel
theorem d_E_insert_36 : decode prog_3_method_8_code 36 = .ok (.aload_n 1, 1) := by decide +kernel
theorem d_E_insert_37 : decode prog_3_method_8_code 37 = .ok (.iconst 0, 1) := by decide +kernel
theorem d_E_insert_38 : decode prog_3_method_8_code 38 = .ok (.iload_n 2, 1) := by decide +kernel
theorem d_E_insert_39 : decode prog_3_method_8_code 39 = .ok (.invokevirtual 118, 3) := by decide +kernel
theorem d_E_insert_42 : decode prog_3_method_8_code 42 = .ok (.aload_n 0, 1) := by decide +kernel
theorem d_E_insert_43 : decode prog_3_method_8_code 43 = .ok (.dup, 1) := by decide +kernel
theorem d_E_insert_44 : decode prog_3_method_8_code 44 = .ok (.getfield 78, 3) := by decide +kernel
theorem d_E_insert_47 : decode prog_3_method_8_code 47 = .ok (.iload_n 2, 1) := by decide +kernel
theorem d_E_insert_48 : decode prog_3_method_8_code 48 = .ok (.iadd, 1) := by decide +kernel
theorem d_E_insert_49 : decode prog_3_method_8_code 49 = .ok (.putfield 78, 3) := by decide +kernel
theorem d_E_insert_52 : decode prog_3_method_8_code 52 = .ok (.aload_n 0, 1) := by decide +kernel
theorem d_E_insert_53 : decode prog_3_method_8_code 53 = .ok (.iconst (-1), 1) := by decide +kernel
theorem d_E_insert_54 : decode prog_3_method_8_code 54 = .ok (.putfield 39, 3) := by decide +kernel
theorem d_E_insert_57 : decode prog_3_method_8_code 57 = .ok (.return_, 1) := by decide +kernel
theorem d_E_removeBetween_0 : decode prog_3_method_9_code 0 = .ok (.iload_n 1, 1) := by decide +kernel
theorem d_E_removeBetween_1 : decode prog_3_method_9_code 1 = .ok (.iload_n 2, 1) := by decide +kernel
theorem d_E_removeBetween_2 : decode prog_3_method_9_code 2 = .ok (.if_icmp .lt 4, 3) := by decide +kernel
theorem d_E_removeBetween_5 : decode prog_3_method_9_code 5 = .ok (.return_, 1) := by decide +kernel
theorem d_E_removeBetween_6 : decode prog_3_method_9_code 6 = .ok (.aload_n 0, 1) := by decide +kernel
theorem d_E_removeBetween_7 : decode prog_3_method_9_code 7 = .ok (.getfield 21, 3) := by decide +kernel
theorem d_E_removeBetween_10 : decode prog_3_method_9_code 10 = .ok (.aload_n 0, 1) := by decide +kernel
theorem d_E_removeBetween_11 : decode prog_3_method_9_code 11 = .ok (.getfield 12, 3) := by decide +kernel
theorem d_E_removeBetween_14 : decode prog_3_method_9_code 14 = .ok (.iload_n 1, 1) := by decide +kernel
theorem d_E_removeBetween_15 : decode prog_3_method_9_code 15 = .ok (.iload_n 2, 1) := by decide +kernel
theorem d_E_removeBetween_16 : decode prog_3_method_9_code 16 = .ok (.iload_n 1, 1) := by decide +kernel
theorem d_E_removeBetween_17 : decode prog_3_method_9_code 17 = .ok (.isub, 1) := by decide +kernel
theorem d_E_removeBetween_18 : decode prog_3_method_9_code 18 = .ok (.aload_n 0, 1) := by decide +kernel
theorem d_E_removeBetween_19 : decode prog_3_method_9_code 19 = .ok (.getfield 78, 3) := by decide +kernel
theorem d_E_removeBetween_22 : decode prog_3_method_9_code 22 = .ok (.invokevirtual 121, 3) := by decide +kernel
theorem d_E_removeBetween_25 : decode prog_3_method_9_code 25 = .ok (.aload_n 0, 1) := by decide +kernel
theorem d_E_removeBetween_26 : decode prog_3_method_9_code 26 = .ok (.getfield 12, 3) := by decide +kernel
theorem d_E_removeBetween_29 : decode prog_3_method_9_code 29 = .ok (.iload_n 1, 1) := by decide +kernel
theorem d_E_removeBetween_30 : decode prog_3_method_9_code 30 = .ok (.iload_n 2, 1) := by decide +kernel
theorem d_E_removeBetween_31 : decode prog_3_method_9_code 31 = .ok (.iload_n 1, 1) := by decide +kernel
theorem d_E_removeBetween_32 : decode prog_3_method_9_code 32 = .ok (.isub, 1) := by decide +kernel
theorem d_E_removeBetween_33 : decode prog_3_method_9_code 33 = .ok (.invokevirtual 125, 3) := by decide +kernel
theorem d_E_removeBetween_36 : decode prog_3_method_9_code 36 = .ok (.aload_n 0, 1) := by decide +kernel
theorem d_E_removeBetween_37 : decode prog_3_method_9_code 37 = .ok (.iload_n 1, 1) := by decide +kernel
theorem d_E_removeBetween_38 : decode prog_3_method_9_code 38 = .ok (.putfield 78, 3) := by decide +kernel
theorem d_E_removeBetween_41 : decode prog_3_method_9_code 41 = .ok (.aload_n 0, 1) := by decide +kernel
theorem d_E_removeBetween_42 : decode prog_3_method_9_code 42 = .ok (.iconst (-1), 1) := by decide +kernel
theorem d_E_removeBetween_43 : decode prog_3_method_9_code 43 = .ok (.putfield 39, 3) := by decide +kernel
theorem d_E_removeBetween_46 : decode prog_3_method_9_code 46 = .ok (.return_, 1) := by decide +kernel
theorem d_E_cut_0 : decode prog_3_method_10_code 0 = .ok (.aload_n 0, 1) := by decide +kernel
theorem d_E_cut_1 : decode prog_3_method_10_code 1 = .ok (.getfield 39, 3) := by decide +kernel
theorem d_E_cut_4 : decode prog_3_method_10_code 4 = .ok (.iconst (-1), 1) := by decide +kernel
theorem d_E_cut_5 : decode prog_3_method_10_code 5 = .ok (.if_icmp .eq 14, 3) := by decide +kernel
theorem d_E_cut_8 : decode prog_3_method_10_code 8 = .ok (.aload_n 0, 1) := by decide +kernel
theorem d_E_cut_9 : decode prog_3_method_10_code 9 = .ok (.getfield 39, 3) := by decide +kernel
theorem d_E_cut_12 : decode prog_3_method_10_code 12 = .ok (.aload_n 0, 1) := by decide +kernel
theorem d_E_cut_13 : decode prog_3_method_10_code 13 = .ok (.getfield 78, 3) := by decide +kernel
theorem d_E_cut_16 : decode prog_3_method_10_code 16 = .ok (.if_icmp .ne 4, 3) := by decide +kernel
theorem d_E_cut_19 : decode prog_3_method_10_code 19 = .ok (.return_, 1) := by decide +kernel
theorem d_E_cut_20 : decode prog_3_method_10_code 20 = .ok (.aload_n 0, 1) := by decide +kernel
theorem d_E_cut_21 : decode prog_3_method_10_code 21 = .ok (.getfield 39, 3) := by decide +kernel
theorem d_E_cut_24 : decode prog_3_method_10_code 24 = .ok (.aload_n 0, 1) := by decide +kernel
theorem d_E_cut_25 : decode prog_3_method_10_code 25 = .ok (.getfield 78, 3) := by decide +kernel
theorem d_E_cut_28 : decode prog_3_method_10_code 28 = .ok (.invokestatic 128, 3) := by decide +kernel
theorem d_E_cut_31 : decode prog_3_method_10_code 31 = .ok (.istore_n 1, 1) := by decide +kernel
theorem d_E_cut_32 : decode prog_3_method_10_code 32 = .ok (.aload_n 0, 1) := by decide +kernel
theorem d_E_cut_33 : decode prog_3_method_10_code 33 = .ok (.getfield 39, 3) := by decide +kernel
theorem d_E_cut_36 : decode prog_3_method_10_code 36 = .ok (.aload_n 0, 1) := by decide +kernel
theorem d_E_cut_37 : decode prog_3_method_10_code 37 = .ok (.getfield 78, 3) := by decide +kernel
theorem d_E_cut_40 : decode prog_3_method_10_code 40 = .ok (.invokestatic 134, 3) := by decide +kernel
theorem d_E_cut_43 : decode prog_3_method_10_code 43 = .ok (.istore_n 2, 1) := by decide +kernel
theorem d_E_cut_44 : decode prog_3_method_10_code 44 = .ok (.aload_n 0, 1) := by decide +kernel
theorem d_E_cut_45 : decode prog_3_method_10_code 45 = .ok (.iload_n 2, 1) := by decide +kernel
theorem d_E_cut_46 : decode prog_3_method_10_code 46 = .ok (.iload_n 1, 1) := by decide +kernel
theorem d_E_cut_47 : decode prog_3_method_10_code 47 = .ok (.isub, 1) := by decide +kernel
theorem d_E_cut_48 : decode prog_3_method_10_code 48 = .ok (.putfield 102, 3) := by decide +kernel
theorem d_E_cut_51 : decode prog_3_method_10_code 51 = .ok (.aload_n 0, 1) := by decide +kernel
theorem d_E_cut_52 : decode prog_3_method_10_code 52 = .ok (.getfield 12, 3) := by decide +kernel
theorem d_E_cut_55 : decode prog_3_method_10_code 55 = .ok (.aload_n 0, 1) := by decide +kernel
theorem d_E_cut_56 : decode prog_3_method_10_code 56 = .ok (.getfield 32, 3) := by decide +kernel
theorem d_E_cut_59 : decode prog_3_method_10_code 59 = .ok (.iconst 0, 1) := by decide +kernel
theorem d_E_cut_60 : decode prog_3_method_10_code 60 = .ok (.iload_n 1, 1) := by decide +kernel
theorem d_E_cut_61 : decode prog_3_method_10_code 61 = .ok (.aload_n 0, 1) := by decide +kernel
theorem d_E_cut_62 : decode prog_3_method_10_code 62 = .ok (.getfield 102, 3) := by decide +kernel
theorem d_E_cut_65 : decode prog_3_method_10_code 65 = .ok (.invokevirtual 137, 3) := by decide +kernel
theorem d_E_cut_68 : decode prog_3_method_10_code 68 = .ok (.aload_n 0, 1) := by decide +kernel
theorem d_E_cut_69 : decode prog_3_method_10_code 69 = .ok (.iload_n 1, 1) := by decide +kernel
theorem d_E_cut_70 : decode prog_3_method_10_code 70 = .ok (.iload_n 2, 1) := by decide +kernel
theorem d_E_cut_71 : decode prog_3_method_10_code 71 = .ok (.invokevirtual 89, 3) := by decide +kernel
theorem d_E_cut_74 : decode prog_3_method_10_code 74 = .ok (.return_, 1) := by decide +kernel
theorem d_E_undo_0 : decode prog_3_method_11_code 0 = .ok (.aload_n 0, 1) := by decide +kernel
theorem d_E_undo_1 : decode prog_3_method_11_code 1 = .ok (.getfield 21, 3) := by decide +kernel
theorem d_E_undo_4 : decode prog_3_method_11_code 4 = .ok (.aload_n 0, 1) := by decide +kernel
theorem d_E_undo_5 : decode prog_3_method_11_code 5 = .ok (.getfield 12, 3) := by decide +kernel
theorem d_E_undo_8 : decode prog_3_method_11_code 8 = .ok (.invokevirtual 141, 3) := by decide +kernel
theorem d_E_undo_11 : decode prog_3_method_11_code 11 = .ok (.istore_n 1, 1) := by decide +kernel
theorem d_E_undo_12 : decode prog_3_method_11_code 12 = .ok (.iload_n 1, 1) := by decide +kernel
theorem d_E_undo_13 : decode prog_3_method_11_code 13 = .ok (.iconst (-1), 1) := by decide +kernel
theorem d_E_undo_14 : decode prog_3_method_11_code 14 = .ok (.if_icmp .eq 13, 3) := by decide +kernel
theorem d_E_undo_17 : decode prog_3_method_11_code 17 = .ok (.aload_n 0, 1) := by decide +kernel
theorem d_E_undo_18 : decode prog_3_method_11_code 18 = .ok (.iload_n 1, 1) := by decide +kernel
theorem d_E_undo_19 : decode prog_3_method_11_code 19 = .ok (.putfield 78, 3) := by decide +kernel
theorem d_E_undo_22 : decode prog_3_method_11_code 22 = .ok (.aload_n 0, 1) := by decide +kernel
theorem d_E_undo_23 : decode prog_3_method_11_code 23 = .ok (.iconst (-1), 1) := by decide +kernel
theorem d_E_undo_24 : decode prog_3_method_11_code 24 = .ok (.putfield 39, 3) := by decide +kernel
theorem d_E_undo_27 : decode prog_3_method_11_code 27 = .ok (.return_, 1) := by decide +kernel
theorem d_E_moveByRow_0 : decode prog_3_method_12_code 0 = .ok (.aload_n 0, 1) := by decide +kernel
theorem d_E_moveByRow_1 : decode prog_3_method_12_code 1 = .ok (.getfield 50, 3) := by decide +kernel
theorem d_E_moveByRow_4 : decode prog_3_method_12_code 4 = .ok (.iconst 4, 1) := by decide +kernel
theorem d_E_moveByRow_5 : decode prog_3_method_12_code 5 = .ok (.if_icmp .ge 4, 3) := by decide +kernel
theorem d_E_moveByRow_8 : decode prog_3_method_12_code 8 = .ok (.return_, 1) := by decide +kernel
theorem d_E_moveByRow_9 : decode prog_3_method_12_code 9 = .ok (.aload_n 0, 1) := by decide +kernel
theorem d_E_moveByRow_10 : decode prog_3_method_12_code 10 = .ok (.getfield 28, 3) := by decide +kernel
theorem d_E_moveByRow_13 : decode prog_3_method_12_code 13 = .ok (.aload_n 0, 1) := by decide +kernel
theorem d_E_moveByRow_14 : decode prog_3_method_12_code 14 = .ok (.getfield 12, 3) := by decide +kernel
theorem d_E_moveByRow_17 : decode prog_3_method_12_code 17 = .ok (.aload_n 0, 1) := by decide +kernel
theorem d_E_moveByRow_18 : decode prog_3_method_12_code 18 = .ok (.getfield 50, 3) := by decide +kernel
theorem d_E_moveByRow_21 : decode prog_3_method_12_code 21 = .ok (.invokevirtual 145, 3) := by decide +kernel
theorem d_E_moveByRow_24 : decode prog_3_method_12_code 24 = .ok (.aload_n 0, 1) := by decide +kernel
theorem d_E_moveByRow_25 : decode prog_3_method_12_code 25 = .ok (.getfield 43, 3) := by decide +kernel
theorem d_E_moveByRow_28 : decode prog_3_method_12_code 28 = .ok (.iconst (-1), 1) := by decide +kernel
theorem d_E_moveByRow_29 : decode prog_3_method_12_code 29 = .ok (.if_icmp .ne 19, 3) := by decide +kernel
theorem d_E_moveByRow_32 : decode prog_3_method_12_code 32 = .ok (.aload_n 0, 1) := by decide +kernel
theorem d_E_moveByRow_33 : decode prog_3_method_12_code 33 = .ok (.aload_n 0, 1) := by decide +kernel
theorem d_E_moveByRow_34 : decode prog_3_method_12_code 34 = .ok (.getfield 28, 3) := by decide +kernel
theorem d_E_moveByRow_37 : decode prog_3_method_12_code 37 = .ok (.getfield 149, 3) := by decide +kernel
theorem d_E_moveByRow_40 : decode prog_3_method_12_code 40 = .ok (.aload_n 0, 1) := by decide +kernel
theorem d_E_moveByRow_41 : decode prog_3_method_12_code 41 = .ok (.getfield 78, 3) := by decide +kernel
theorem d_E_moveByRow_44 : decode prog_3_method_12_code 44 = .ok (.iaload, 1) := by decide +kernel
theorem d_E_moveByRow_45 : decode prog_3_method_12_code 45 = .ok (.putfield 43, 3) := by decide +kernel
theorem d_E_moveByRow_48 : decode prog_3_method_12_code 48 = .ok (.aload_n 0, 1) := by decide +kernel
theorem d_E_moveByRow_49 : decode prog_3_method_12_code 49 = .ok (.getfield 28, 3) := by decide +kernel
theorem d_E_moveByRow_52 : decode prog_3_method_12_code 52 = .ok (.aload_n 0, 1) := by decide +kernel
theorem d_E_moveByRow_53 : decode prog_3_method_12_code 53 = .ok (.getfield 12, 3) := by decide +kernel
theorem d_E_moveByRow_56 : decode prog_3_method_12_code 56 = .ok (.aload_n 0, 1) := by decide +kernel
theorem d_E_moveByRow_57 : decode prog_3_method_12_code 57 = .ok (.getfield 28, 3) := by decide +kernel
theorem d_E_moveByRow_60 : decode prog_3_method_12_code 60 = .ok (.getfield 152, 3) := by decide +kernel
theorem d_E_moveByRow_63 : decode prog_3_method_12_code 63 = .ok (.aload_n 0, 1) := by decide +kernel
theorem d_E_moveByRow_64 : decode prog_3_method_12_code 64 = .ok (.getfield 78, 3) := by decide +kernel
theorem d_E_moveByRow_67 : decode prog_3_method_12_code 67 = .ok (.iaload, 1) := by decide +kernel
theorem d_E_moveByRow_68 : decode prog_3_method_12_code 68 = .ok (.iload_n 1, 1) := by decide +kernel
theorem d_E_moveByRow_69 : decode prog_3_method_12_code 69 = .ok (.iadd, 1) := by decide +kernel
theorem d_E_moveByRow_70 : decode prog_3_method_12_code 70 = .ok (.aload_n 0, 1) := by decide +kernel
theorem d_E_moveByRow_71 : decode prog_3_method_12_code 71 = .ok (.getfield 43, 3) := by decide +kernel
theorem d_E_moveByRow_74 : decode prog_3_method_12_code 74 = .ok (.invokevirtual 155, 3) := by decide +kernel
theorem d_E_moveByRow_77 : decode prog_3_method_12_code 77 = .ok (.istore_n 2, 1) := by decide +kernel
theorem d_E_moveByRow_78 : decode prog_3_method_12_code 78 = .ok (.iload_n 2, 1) := by decide +kernel
theorem d_E_moveByRow_79 : decode prog_3_method_12_code 79 = .ok (.iconst (-1), 1) := by decide +kernel
theorem d_E_moveByRow_80 : decode prog_3_method_12_code 80 = .ok (.if_icmp .eq 8, 3) := by decide +kernel
theorem d_E_moveByRow_83 : decode prog_3_method_12_code 83 = .ok (.aload_n 0, 1) := by decide +kernel
theorem d_E_moveByRow_84 : decode prog_3_method_12_code 84 = .ok (.iload_n 2, 1) := by decide +kernel
theorem d_E_moveByRow_85 : decode prog_3_method_12_code 85 = .ok (.putfield 78, 3) := by decide +kernel
theorem d_E_moveByRow_88 : decode prog_3_method_12_code 88 = .ok (.return_, 1) := by decide +kernel
theorem d_E_isBetween_0 : decode prog_3_method_13_code 0 = .ok (.aload_n 0, 1) := by decide +kernel
theorem d_E_isBetween_1 : decode prog_3_method_13_code 1 = .ok (.getfield 39, 3) := by decide +kernel
theorem d_E_isBetween_4 : decode prog_3_method_13_code 4 = .ok (.iconst (-1), 1) := by decide +kernel
theorem d_E_isBetween_5 : decode prog_3_method_13_code 5 = .ok (.if_icmp .eq 37, 3) := by decide +kernel
theorem d_E_isBetween_8 : decode prog_3_method_13_code 8 = .ok (.iload_n 1, 1) := by decide +kernel
theorem d_E_isBetween_9 : decode prog_3_method_13_code 9 = .ok (.aload_n 0, 1) := by decide +kernel
theorem d_E_isBetween_10 : decode prog_3_method_13_code 10 = .ok (.getfield 39, 3) := by decide +kernel
theorem d_E_isBetween_13 : decode prog_3_method_13_code 13 = .ok (.aload_n 0, 1) := by decide +kernel
theorem d_E_isBetween_14 : decode prog_3_method_13_code 14 = .ok (.getfield 78, 3) := by decide +kernel
theorem d_E_isBetween_17 : decode prog_3_method_13_code 17 = .ok (.invokestatic 128, 3) := by decide +kernel
theorem d_E_isBetween_20 : decode prog_3_method_13_code 20 = .ok (.if_icmp .lt 22, 3) := by decide +kernel
theorem d_E_isBetween_23 : decode prog_3_method_13_code 23 = .ok (.iload_n 1, 1) := by decide +kernel
theorem d_E_isBetween_24 : decode prog_3_method_13_code 24 = .ok (.aload_n 0, 1) := by decide +kernel
theorem d_E_isBetween_25 : decode prog_3_method_13_code 25 = .ok (.getfield 39, 3) := by decide +kernel
theorem d_E_isBetween_28 : decode prog_3_method_13_code 28 = .ok (.aload_n 0, 1) := by decide +kernel
theorem d_E_isBetween_29 : decode prog_3_method_13_code 29 = .ok (.getfield 78, 3) := by decide +kernel
theorem d_E_isBetween_32 : decode prog_3_method_13_code 32 = .ok (.invokestatic 134, 3) := by decide +kernel
theorem d_E_isBetween_35 : decode prog_3_method_13_code 35 = .ok (.if_icmp .ge 7, 3) := by decide +kernel
theorem d_E_isBetween_38 : decode prog_3_method_13_code 38 = .ok (.iconst 1, 1) := by decide +kernel
theorem d_E_isBetween_39 : decode prog_3_method_13_code 39 = .ok (.goto 4, 3) := by decide +kernel
theorem d_E_isBetween_42 : decode prog_3_method_13_code 42 = .ok (.iconst 0, 1) := by decide +kernel
theorem d_E_isBetween_43 : decode prog_3_method_13_code 43 = .ok (.ireturn, 1) := by decide +kernel
