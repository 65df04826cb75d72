theorem dX12_holds_117 : decode cX12_holds 117 = .ok (.istore 5, 2) := by decide +kernel
theorem dX12_holds_119 : decode cX12_holds 119 = .ok (.aload_n 0, 1) := by decide +kernel
theorem dX12_holds_120 : decode cX12_holds 120 = .ok (.getfield 75, 3) := by decide +kernel
theorem dX12_holds_123 : decode cX12_holds 123 = .ok (.iload_n 2, 1) := by decide +kernel
theorem dX12_holds_124 : decode cX12_holds 124 = .ok (.iaload, 1) := by decide +kernel
theorem dX12_holds_125 : decode cX12_holds 125 = .ok (.istore 6, 2) := by decide +kernel
theorem dX12_holds_127 : decode cX12_holds 127 = .ok (.iload 4, 2) := by decide +kernel
theorem dX12_holds_129 : decode cX12_holds 129 = .ok (.tableswitch 176 41 46 #[39, 65, 91, 114, 137, 160], 39) := by decide +kernel
theorem dX12_holds_168 : decode cX12_holds 168 = .ok (.aload_n 0, 1) := by decide +kernel
theorem dX12_holds_169 : decode cX12_holds 169 = .ok (.getfield 75, 3) := by decide +kernel
theorem dX12_holds_172 : decode cX12_holds 172 = .ok (.iload_n 2, 1) := by decide +kernel
theorem dX12_holds_173 : decode cX12_holds 173 = .ok (.iconst 1, 1) := by decide +kernel
theorem dX12_holds_174 : decode cX12_holds 174 = .ok (.isub, 1) := by decide +kernel
theorem dX12_holds_175 : decode cX12_holds 175 = .ok (.iload 5, 2) := by decide +kernel
theorem dX12_holds_177 : decode cX12_holds 177 = .ok (.ifCond .ne 8, 3) := by decide +kernel
theorem dX12_holds_180 : decode cX12_holds 180 = .ok (.iload 6, 2) := by decide +kernel
theorem dX12_holds_182 : decode cX12_holds 182 = .ok (.ifCond .eq 7, 3) := by decide +kernel
theorem dX12_holds_185 : decode cX12_holds 185 = .ok (.iconst 1, 1) := by decide +kernel
theorem dX12_holds_186 : decode cX12_holds 186 = .ok (.goto 4, 3) := by decide +kernel
theorem dX12_holds_189 : decode cX12_holds 189 = .ok (.iconst 0, 1) := by decide +kernel
theorem dX12_holds_190 : decode cX12_holds 190 = .ok (.iastore, 1) := by decide +kernel
theorem dX12_holds_191 : decode cX12_holds 191 = .ok (.goto 127, 3) := by decide +kernel
theorem dX12_holds_194 : decode cX12_holds 194 = .ok (.aload_n 0, 1) := by decide +kernel
theorem dX12_holds_195 : decode cX12_holds 195 = .ok (.getfield 75, 3) := by decide +kernel
theorem dX12_holds_198 : decode cX12_holds 198 = .ok (.iload_n 2, 1) := by decide +kernel
theorem dX12_holds_199 : decode cX12_holds 199 = .ok (.iconst 1, 1) := by decide +kernel
theorem dX12_holds_200 : decode cX12_holds 200 = .ok (.isub, 1) := by decide +kernel
theorem dX12_holds_201 : decode cX12_holds 201 = .ok (.iload 5, 2) := by decide +kernel
theorem dX12_holds_203 : decode cX12_holds 203 = .ok (.ifCond .eq 12, 3) := by decide +kernel
theorem dX12_holds_206 : decode cX12_holds 206 = .ok (.iload 6, 2) := by decide +kernel
theorem dX12_holds_208 : decode cX12_holds 208 = .ok (.ifCond .eq 7, 3) := by decide +kernel
theorem dX12_holds_211 : decode cX12_holds 211 = .ok (.iconst 1, 1) := by decide +kernel
theorem dX12_holds_212 : decode cX12_holds 212 = .ok (.goto 4, 3) := by decide +kernel
theorem dX12_holds_215 : decode cX12_holds 215 = .ok (.iconst 0, 1) := by decide +kernel
theorem dX12_holds_216 : decode cX12_holds 216 = .ok (.iastore, 1) := by decide +kernel
theorem dX12_holds_217 : decode cX12_holds 217 = .ok (.goto 101, 3) := by decide +kernel
theorem dX12_holds_220 : decode cX12_holds 220 = .ok (.aload_n 0, 1) := by decide +kernel
theorem dX12_holds_221 : decode cX12_holds 221 = .ok (.getfield 75, 3) := by decide +kernel
theorem dX12_holds_224 : decode cX12_holds 224 = .ok (.iload_n 2, 1) := by decide +kernel
theorem dX12_holds_225 : decode cX12_holds 225 = .ok (.iconst 1, 1) := by decide +kernel
theorem dX12_holds_226 : decode cX12_holds 226 = .ok (.isub, 1) := by decide +kernel
theorem dX12_holds_227 : decode cX12_holds 227 = .ok (.iload 5, 2) := by decide +kernel
theorem dX12_holds_229 : decode cX12_holds 229 = .ok (.iload 6, 2) := by decide +kernel
theorem dX12_holds_231 : decode cX12_holds 231 = .ok (.if_icmp .ne 7, 3) := by decide +kernel
theorem dX12_holds_234 : decode cX12_holds 234 = .ok (.iconst 1, 1) := by decide +kernel
theorem dX12_holds_235 : decode cX12_holds 235 = .ok (.goto 4, 3) := by decide +kernel
theorem dX12_holds_238 : decode cX12_holds 238 = .ok (.iconst 0, 1) := by decide +kernel
theorem dX12_holds_239 : decode cX12_holds 239 = .ok (.iastore, 1) := by decide +kernel
theorem dX12_holds_240 : decode cX12_holds 240 = .ok (.goto 78, 3) := by decide +kernel
theorem dX12_holds_243 : decode cX12_holds 243 = .ok (.aload_n 0, 1) := by decide +kernel
theorem dX12_holds_244 : decode cX12_holds 244 = .ok (.getfield 75, 3) := by decide +kernel
theorem dX12_holds_247 : decode cX12_holds 247 = .ok (.iload_n 2, 1) := by decide +kernel
theorem dX12_holds_248 : decode cX12_holds 248 = .ok (.iconst 1, 1) := by decide +kernel
theorem dX12_holds_249 : decode cX12_holds 249 = .ok (.isub, 1) := by decide +kernel
theorem dX12_holds_250 : decode cX12_holds 250 = .ok (.iload 5, 2) := by decide +kernel
theorem dX12_holds_252 : decode cX12_holds 252 = .ok (.iload 6, 2) := by decide +kernel
theorem dX12_holds_254 : decode cX12_holds 254 = .ok (.if_icmp .ge 7, 3) := by decide +kernel
theorem dX12_holds_257 : decode cX12_holds 257 = .ok (.iconst 1, 1) := by decide +kernel
theorem dX12_holds_258 : decode cX12_holds 258 = .ok (.goto 4, 3) := by decide +kernel
theorem dX12_holds_261 : decode cX12_holds 261 = .ok (.iconst 0, 1) := by decide +kernel
theorem dX12_holds_262 : decode cX12_holds 262 = .ok (.iastore, 1) := by decide +kernel
theorem dX12_holds_263 : decode cX12_holds 263 = .ok (.goto 55, 3) := by decide +kernel
theorem dX12_holds_266 : decode cX12_holds 266 = .ok (.aload_n 0, 1) := by decide +kernel
theorem dX12_holds_267 : decode cX12_holds 267 = .ok (.getfield 75, 3) := by decide +kernel
theorem dX12_holds_270 : decode cX12_holds 270 = .ok (.iload_n 2, 1) := by decide +kernel
theorem dX12_holds_271 : decode cX12_holds 271 = .ok (.iconst 1, 1) := by decide +kernel
theorem dX12_holds_272 : decode cX12_holds 272 = .ok (.isub, 1) := by decide +kernel
theorem dX12_holds_273 : decode cX12_holds 273 = .ok (.iload 5, 2) := by decide +kernel
theorem dX12_holds_275 : decode cX12_holds 275 = .ok (.iload 6, 2) := by decide +kernel
theorem dX12_holds_277 : decode cX12_holds 277 = .ok (.if_icmp .le 7, 3) := by decide +kernel
theorem dX12_holds_280 : decode cX12_holds 280 = .ok (.iconst 1, 1) := by decide +kernel
theorem dX12_holds_281 : decode cX12_holds 281 = .ok (.goto 4, 3) := by decide +kernel
theorem dX12_holds_284 : decode cX12_holds 284 = .ok (.iconst 0, 1) := by decide +kernel
theorem dX12_holds_285 : decode cX12_holds 285 = .ok (.iastore, 1) := by decide +kernel
theorem dX12_holds_286 : decode cX12_holds 286 = .ok (.goto 32, 3) := by decide +kernel
theorem dX12_holds_289 : decode cX12_holds 289 = .ok (.aload_n 0, 1) := by decide +kernel
theorem dX12_holds_290 : decode cX12_holds 290 = .ok (.getfield 75, 3) := by decide +kernel
theorem dX12_holds_293 : decode cX12_holds 293 = .ok (.iload_n 2, 1) := by decide +kernel
theorem dX12_holds_294 : decode cX12_holds 294 = .ok (.iconst 1, 1) := by decide +kernel
theorem dX12_holds_295 : decode cX12_holds 295 = .ok (.isub, 1) := by decide +kernel
theorem dX12_holds_296 : decode cX12_holds 296 = .ok (.iload 5, 2) := by decide +kernel
theorem dX12_holds_298 : decode cX12_holds 298 = .ok (.iload 6, 2) := by decide +kernel
theorem dX12_holds_300 : decode cX12_holds 300 = .ok (.iadd, 1) := by decide +kernel
theorem dX12_holds_301 : decode cX12_holds 301 = .ok (.iastore, 1) := by decide +kernel
theorem dX12_holds_302 : decode cX12_holds 302 = .ok (.goto 16, 3) := by decide +kernel
theorem dX12_holds_305 : decode cX12_holds 305 = .ok (.aload_n 0, 1) := by decide +kernel
theorem dX12_holds_306 : decode cX12_holds 306 = .ok (.getfield 75, 3) := by decide +kernel
theorem dX12_holds_309 : decode cX12_holds 309 = .ok (.iload_n 2, 1) := by decide +kernel
theorem dX12_holds_310 : decode cX12_holds 310 = .ok (.iconst 1, 1) := by decide +kernel
theorem dX12_holds_311 : decode cX12_holds 311 = .ok (.isub, 1) := by decide +kernel
theorem dX12_holds_312 : decode cX12_holds 312 = .ok (.iload 5, 2) := by decide +kernel
theorem dX12_holds_314 : decode cX12_holds 314 = .ok (.iload 6, 2) := by decide +kernel
theorem dX12_holds_316 : decode cX12_holds 316 = .ok (.isub, 1) := by decide +kernel
theorem dX12_holds_317 : decode cX12_holds 317 = .ok (.iastore, 1) := by decide +kernel
theorem dX12_holds_318 : decode cX12_holds 318 = .ok (.iinc 3 1, 3) := by decide +kernel
theorem dX12_holds_321 : decode cX12_holds 321 = .ok (.goto (-312), 3) := by decide +kernel
theorem dX12_holds_324 : decode cX12_holds 324 = .ok (.aload_n 0, 1) := by decide +kernel
theorem dX12_holds_325 : decode cX12_holds 325 = .ok (.getfield 75, 3) := by decide +kernel
theorem dX12_holds_328 : decode cX12_holds 328 = .ok (.iconst 0, 1) := by decide +kernel
theorem dX12_holds_329 : decode cX12_holds 329 = .ok (.iaload, 1) := by decide +kernel
theorem dX12_holds_330 : decode cX12_holds 330 = .ok (.ifCond .eq 7, 3) := by decide +kernel
theorem dX12_holds_333 : decode cX12_holds 333 = .ok (.iconst 1, 1) := by decide +kernel
theorem dX12_holds_334 : decode cX12_holds 334 = .ok (.goto 4, 3) := by decide +kernel
theorem dX12_holds_337 : decode cX12_holds 337 = .ok (.iconst 0, 1) := by decide +kernel
theorem dX12_holds_338 : decode cX12_holds 338 = .ok (.ireturn, 1) := by decide +kernel
theorem dX12_hold__0 : decode cX12_hold_ 0 = .ok (.iconst 1, 1) := by decide +kernel
theorem dX12_hold__1 : decode cX12_hold_ 1 = .ok (.istore_n 2, 1) := by decide +kernel
theorem dX12_hold__2 : decode cX12_hold_ 2 = .ok (.iconst 0, 1) := by decide +kernel
theorem dX12_hold__3 : decode cX12_hold_ 3 = .ok (.istore_n 3, 1) := by decide +kernel
theorem dX12_hold__4 : decode cX12_hold_ 4 = .ok (.iload_n 3, 1) := by decide +kernel
theorem dX12_hold__5 : decode cX12_hold_ 5 = .ok (.aload_n 0, 1) := by decide +kernel
theorem dX12_hold__6 : decode cX12_hold_ 6 = .ok (.getfield 287, 3) := by decide +kernel
theorem dX12_hold__9 : decode cX12_hold_ 9 = .ok (.if_icmp .ge 37, 3) := by decide +kernel
theorem dX12_hold__12 : decode cX12_hold_ 12 = .ok (.iload_n 2, 1) := by decide +kernel
theorem dX12_hold__13 : decode cX12_hold_ 13 = .ok (.ifCond .eq 33, 3) := by decide +kernel
theorem dX12_hold__16 : decode cX12_hold_ 16 = .ok (.aload_n 0, 1) := by decide +kernel
theorem dX12_hold__17 : decode cX12_hold_ 17 = .ok (.getfield 50, 3) := by decide +kernel
theorem dX12_hold__20 : decode cX12_hold_ 20 = .ok (.iload_n 3, 1) := by decide +kernel
theorem dX12_hold__21 : decode cX12_hold_ 21 = .ok (.baload, 1) := by decide +kernel
theorem dX12_hold__22 : decode cX12_hold_ 22 = .ok (.iload_n 1, 1) := by decide +kernel
theorem dX12_hold__23 : decode cX12_hold_ 23 = .ok (.if_icmp .ne 11, 3) := by decide +kernel
theorem dX12_hold__26 : decode cX12_hold_ 26 = .ok (.aload_n 0, 1) := by decide +kernel
theorem dX12_hold__27 : decode cX12_hold_ 27 = .ok (.iload_n 3, 1) := by decide +kernel
theorem dX12_hold__28 : decode cX12_hold_ 28 = .ok (.invokevirtual 290, 3) := by decide +kernel
theorem dX12_hold__31 : decode cX12_hold_ 31 = .ok (.ifCond .eq 7, 3) := by decide +kernel
theorem dX12_hold__34 : decode cX12_hold_ 34 = .ok (.iconst 1, 1) := by decide +kernel
theorem dX12_hold__35 : decode cX12_hold_ 35 = .ok (.goto 4, 3) := by decide +kernel
theorem dX12_hold__38 : decode cX12_hold_ 38 = .ok (.iconst 0, 1) := by decide +kernel
theorem dX12_hold__39 : decode cX12_hold_ 39 = .ok (.istore_n 2, 1) := by decide +kernel
theorem dX12_hold__40 : decode cX12_hold_ 40 = .ok (.iinc 3 1, 3) := by decide +kernel
theorem dX12_hold__43 : decode cX12_hold_ 43 = .ok (.goto (-39), 3) := by decide +kernel
theorem dX12_hold__46 : decode cX12_hold_ 46 = .ok (.iload_n 2, 1) := by decide +kernel
theorem dX12_hold__47 : decode cX12_hold_ 47 = .ok (.ireturn, 1) := by decide +kernel
theorem dX12_may_0 : decode cX12_may 0 = .ok (.aload_n 0, 1) := by decide +kernel
theorem dX12_may_1 : decode cX12_may 1 = .ok (.iload_n 1, 1) := by decide +kernel
theorem dX12_may_2 : decode cX12_may 2 = .ok (.invokevirtual 142, 3) := by decide +kernel
theorem dX12_may_5 : decode cX12_may 5 = .ok (.ifCond .eq 41, 3) := by decide +kernel
theorem dX12_may_8 : decode cX12_may 8 = .ok (.iload_n 2, 1) := by decide +kernel
theorem dX12_may_9 : decode cX12_may 9 = .ok (.invokestatic 146, 3) := by decide +kernel
theorem dX12_may_12 : decode cX12_may 12 = .ok (.ifCond .eq 34, 3) := by decide +kernel
theorem dX12_may_15 : decode cX12_may 15 = .ok (.iload_n 3, 1) := by decide +kernel
theorem dX12_may_16 : decode cX12_may 16 = .ok (.ifCond .lt 30, 3) := by decide +kernel
theorem dX12_may_19 : decode cX12_may 19 = .ok (.iload_n 3, 1) := by decide +kernel
theorem dX12_may_20 : decode cX12_may 20 = .ok (.iconst 4, 1) := by decide +kernel
theorem dX12_may_21 : decode cX12_may 21 = .ok (.if_icmp .ge 25, 3) := by decide +kernel
theorem dX12_may_24 : decode cX12_may 24 = .ok (.aload_n 0, 1) := by decide +kernel
theorem dX12_may_25 : decode cX12_may 25 = .ok (.getfield 28, 3) := by decide +kernel
theorem dX12_may_28 : decode cX12_may 28 = .ok (.iload_n 2, 1) := by decide +kernel
theorem dX12_may_29 : decode cX12_may 29 = .ok (.iaload, 1) := by decide +kernel
theorem dX12_may_30 : decode cX12_may 30 = .ok (.ifCond .eq 16, 3) := by decide +kernel
theorem dX12_may_33 : decode cX12_may 33 = .ok (.aload_n 0, 1) := by decide +kernel
theorem dX12_may_34 : decode cX12_may 34 = .ok (.getfield 135, 3) := by decide +kernel
theorem dX12_may_37 : decode cX12_may 37 = .ok (.aload_n 0, 1) := by decide +kernel
theorem dX12_may_38 : decode cX12_may 38 = .ok (.getfield 34, 3) := by decide +kernel
theorem dX12_may_41 : decode cX12_may 41 = .ok (.iload_n 2, 1) := by decide +kernel
theorem dX12_may_42 : decode cX12_may 42 = .ok (.iaload, 1) := by decide +kernel
theorem dX12_may_43 : decode cX12_may 43 = .ok (.if_icmp .ge 5, 3) := by decide +kernel
theorem dX12_may_46 : decode cX12_may 46 = .ok (.iconst 0, 1) := by decide +kernel
theorem dX12_may_47 : decode cX12_may 47 = .ok (.ireturn, 1) := by decide +kernel
theorem dX12_may_48 : decode cX12_may 48 = .ok (.aload_n 0, 1) := by decide +kernel
theorem dX12_may_49 : decode cX12_may 49 = .ok (.iconst 0, 1) := by decide +kernel
theorem dX12_may_50 : decode cX12_may 50 = .ok (.iload_n 1, 1) := by decide +kernel
theorem dX12_may_51 : decode cX12_may 51 = .ok (.invokevirtual 293, 3) := by decide +kernel
theorem dX12_may_54 : decode cX12_may 54 = .ok (.aload_n 0, 1) := by decide +kernel
theorem dX12_may_55 : decode cX12_may 55 = .ok (.getfield 78, 3) := by decide +kernel
theorem dX12_may_58 : decode cX12_may 58 = .ok (.iconst 5, 1) := by decide +kernel
theorem dX12_may_59 : decode cX12_may 59 = .ok (.iload_n 2, 1) := by decide +kernel
theorem dX12_may_60 : decode cX12_may 60 = .ok (.iastore, 1) := by decide +kernel
theorem dX12_may_61 : decode cX12_may 61 = .ok (.aload_n 0, 1) := by decide +kernel
theorem dX12_may_62 : decode cX12_may 62 = .ok (.getfield 78, 3) := by decide +kernel
theorem dX12_may_65 : decode cX12_may 65 = .ok (.bipush 6, 2) := by decide +kernel
theorem dX12_may_67 : decode cX12_may 67 = .ok (.aload_n 0, 1) := by decide +kernel
theorem dX12_may_68 : decode cX12_may 68 = .ok (.getfield 31, 3) := by decide +kernel
theorem dX12_may_71 : decode cX12_may 71 = .ok (.iload_n 2, 1) := by decide +kernel
theorem dX12_may_72 : decode cX12_may 72 = .ok (.iaload, 1) := by decide +kernel
theorem dX12_may_73 : decode cX12_may 73 = .ok (.iastore, 1) := by decide +kernel
theorem dX12_may_74 : decode cX12_may 74 = .ok (.aload_n 0, 1) := by decide +kernel
theorem dX12_may_75 : decode cX12_may 75 = .ok (.getfield 78, 3) := by decide +kernel
theorem dX12_may_78 : decode cX12_may 78 = .ok (.bipush 7, 2) := by decide +kernel
theorem dX12_may_80 : decode cX12_may 80 = .ok (.iload_n 3, 1) := by decide +kernel
theorem dX12_may_81 : decode cX12_may 81 = .ok (.iastore, 1) := by decide +kernel
theorem dX12_may_82 : decode cX12_may 82 = .ok (.aload_n 0, 1) := by decide +kernel
theorem dX12_may_83 : decode cX12_may 83 = .ok (.iconst 0, 1) := by decide +kernel
theorem dX12_may_84 : decode cX12_may 84 = .ok (.invokevirtual 296, 3) := by decide +kernel
theorem dX12_may_87 : decode cX12_may 87 = .ok (.ireturn, 1) := by decide +kernel
theorem dX12_meetsFrom_0 : decode cX12_meetsFrom 0 = .ok (.aload_n 0, 1) := by decide +kernel
theorem dX12_meetsFrom_1 : decode cX12_meetsFrom 1 = .ok (.iconst 0, 1) := by decide +kernel
theorem dX12_meetsFrom_2 : decode cX12_meetsFrom 2 = .ok (.iload_n 1, 1) := by decide +kernel
theorem dX12_meetsFrom_3 : decode cX12_meetsFrom 3 = .ok (.invokevirtual 293, 3) := by decide +kernel
theorem dX12_meetsFrom_6 : decode cX12_meetsFrom 6 = .ok (.aload_n 0, 1) := by decide +kernel
theorem dX12_meetsFrom_7 : decode cX12_meetsFrom 7 = .ok (.bipush 8, 2) := by decide +kernel
theorem dX12_meetsFrom_9 : decode cX12_meetsFrom 9 = .ok (.iload_n 3, 1) := by decide +kernel
theorem dX12_meetsFrom_10 : decode cX12_meetsFrom 10 = .ok (.invokevirtual 293, 3) := by decide +kernel
theorem dX12_meetsFrom_13 : decode cX12_meetsFrom 13 = .ok (.aload_n 0, 1) := by decide +kernel
theorem dX12_meetsFrom_14 : decode cX12_meetsFrom 14 = .ok (.getfield 78, 3) := by decide +kernel
theorem dX12_meetsFrom_17 : decode cX12_meetsFrom 17 = .ok (.iconst 5, 1) := by decide +kernel
theorem dX12_meetsFrom_18 : decode cX12_meetsFrom 18 = .ok (.iload_n 2, 1) := by decide +kernel
theorem dX12_meetsFrom_19 : decode cX12_meetsFrom 19 = .ok (.iastore, 1) := by decide +kernel
theorem dX12_meetsFrom_20 : decode cX12_meetsFrom 20 = .ok (.aload_n 0, 1) := by decide +kernel
theorem dX12_meetsFrom_21 : decode cX12_meetsFrom 21 = .ok (.getfield 78, 3) := by decide +kernel
theorem dX12_meetsFrom_24 : decode cX12_meetsFrom 24 = .ok (.bipush 6, 2) := by decide +kernel
theorem dX12_meetsFrom_26 : decode cX12_meetsFrom 26 = .ok (.aload_n 0, 1) := by decide +kernel
theorem dX12_meetsFrom_27 : decode cX12_meetsFrom 27 = .ok (.getfield 31, 3) := by decide +kernel
theorem dX12_meetsFrom_30 : decode cX12_meetsFrom 30 = .ok (.iload_n 2, 1) := by decide +kernel
theorem dX12_meetsFrom_31 : decode cX12_meetsFrom 31 = .ok (.iaload, 1) := by decide +kernel
theorem dX12_meetsFrom_32 : decode cX12_meetsFrom 32 = .ok (.iastore, 1) := by decide +kernel
theorem dX12_meetsFrom_33 : decode cX12_meetsFrom 33 = .ok (.aload_n 0, 1) := by decide +kernel
theorem dX12_meetsFrom_34 : decode cX12_meetsFrom 34 = .ok (.getfield 78, 3) := by decide +kernel
theorem dX12_meetsFrom_37 : decode cX12_meetsFrom 37 = .ok (.bipush 7, 2) := by decide +kernel
theorem dX12_meetsFrom_39 : decode cX12_meetsFrom 39 = .ok (.iload 5, 2) := by decide +kernel
theorem dX12_meetsFrom_41 : decode cX12_meetsFrom 41 = .ok (.iastore, 1) := by decide +kernel
theorem dX12_meetsFrom_42 : decode cX12_meetsFrom 42 = .ok (.aload_n 0, 1) := by decide +kernel
theorem dX12_meetsFrom_43 : decode cX12_meetsFrom 43 = .ok (.getfield 78, 3) := by decide +kernel
theorem dX12_meetsFrom_46 : decode cX12_meetsFrom 46 = .ok (.bipush 13, 2) := by decide +kernel
theorem dX12_meetsFrom_48 : decode cX12_meetsFrom 48 = .ok (.iload 4, 2) := by decide +kernel
theorem dX12_meetsFrom_50 : decode cX12_meetsFrom 50 = .ok (.ifCond .eq 7, 3) := by decide +kernel
theorem dX12_meetsFrom_53 : decode cX12_meetsFrom 53 = .ok (.iconst 1, 1) := by decide +kernel
theorem dX12_meetsFrom_54 : decode cX12_meetsFrom 54 = .ok (.goto 4, 3) := by decide +kernel
theorem dX12_meetsFrom_57 : decode cX12_meetsFrom 57 = .ok (.iconst 0, 1) := by decide +kernel
theorem dX12_meetsFrom_58 : decode cX12_meetsFrom 58 = .ok (.iastore, 1) := by decide +kernel
theorem dX12_meetsFrom_59 : decode cX12_meetsFrom 59 = .ok (.aload_n 0, 1) := by decide +kernel
theorem dX12_meetsFrom_60 : decode cX12_meetsFrom 60 = .ok (.iconst 1, 1) := by decide +kernel
theorem dX12_meetsFrom_61 : decode cX12_meetsFrom 61 = .ok (.invokevirtual 296, 3) := by decide +kernel
theorem dX12_meetsFrom_64 : decode cX12_meetsFrom 64 = .ok (.ireturn, 1) := by decide +kernel
theorem dX12_meet_0 : decode cX12_meet 0 = .ok (.aload_n 0, 1) := by decide +kernel
theorem dX12_meet_1 : decode cX12_meet 1 = .ok (.iload_n 1, 1) := by decide +kernel
theorem dX12_meet_2 : decode cX12_meet 2 = .ok (.invokevirtual 142, 3) := by decide +kernel
theorem dX12_meet_5 : decode cX12_meet 5 = .ok (.ifCond .eq 42, 3) := by decide +kernel
theorem dX12_meet_8 : decode cX12_meet 8 = .ok (.aload_n 0, 1) := by decide +kernel
theorem dX12_meet_9 : decode cX12_meet 9 = .ok (.iload_n 3, 1) := by decide +kernel
theorem dX12_meet_10 : decode cX12_meet 10 = .ok (.invokevirtual 142, 3) := by decide +kernel
theorem dX12_meet_13 : decode cX12_meet 13 = .ok (.ifCond .eq 34, 3) := by decide +kernel
theorem dX12_meet_16 : decode cX12_meet 16 = .ok (.iload_n 1, 1) := by decide +kernel
theorem dX12_meet_17 : decode cX12_meet 17 = .ok (.iload_n 3, 1) := by decide +kernel
theorem dX12_meet_18 : decode cX12_meet 18 = .ok (.if_icmp .eq 29, 3) := by decide +kernel
theorem dX12_meet_21 : decode cX12_meet 21 = .ok (.iload_n 2, 1) := by decide +kernel
theorem dX12_meet_22 : decode cX12_meet 22 = .ok (.invokestatic 146, 3) := by decide +kernel
theorem dX12_meet_25 : decode cX12_meet 25 = .ok (.ifCond .eq 22, 3) := by decide +kernel
theorem dX12_meet_28 : decode cX12_meet 28 = .ok (.iload 4, 2) := by decide +kernel
theorem dX12_meet_30 : decode cX12_meet 30 = .ok (.invokestatic 146, 3) := by decide +kernel
theorem dX12_meet_33 : decode cX12_meet 33 = .ok (.ifCond .eq 14, 3) := by decide +kernel
theorem dX12_meet_36 : decode cX12_meet 36 = .ok (.iload 5, 2) := by decide +kernel
theorem dX12_meet_38 : decode cX12_meet 38 = .ok (.ifCond .lt 9, 3) := by decide +kernel
theorem dX12_meet_41 : decode cX12_meet 41 = .ok (.iload 5, 2) := by decide +kernel
theorem dX12_meet_43 : decode cX12_meet 43 = .ok (.iconst 4, 1) := by decide +kernel
theorem dX12_meet_44 : decode cX12_meet 44 = .ok (.if_icmp .lt 5, 3) := by decide +kernel
theorem dX12_meet_47 : decode cX12_meet 47 = .ok (.iconst 0, 1) := by decide +kernel
theorem dX12_meet_48 : decode cX12_meet 48 = .ok (.ireturn, 1) := by decide +kernel
theorem dX12_meet_49 : decode cX12_meet 49 = .ok (.iload_n 2, 1) := by decide +kernel
theorem dX12_meet_50 : decode cX12_meet 50 = .ok (.iload 4, 2) := by decide +kernel
theorem dX12_meet_52 : decode cX12_meet 52 = .ok (.if_icmp .eq 7, 3) := by decide +kernel
theorem dX12_meet_55 : decode cX12_meet 55 = .ok (.iconst 1, 1) := by decide +kernel
theorem dX12_meet_56 : decode cX12_meet 56 = .ok (.goto 4, 3) := by decide +kernel
theorem dX12_meet_59 : decode cX12_meet 59 = .ok (.iconst 0, 1) := by decide +kernel
theorem dX12_meet_60 : decode cX12_meet 60 = .ok (.istore 6, 2) := by decide +kernel
theorem dX12_meet_62 : decode cX12_meet 62 = .ok (.iload 6, 2) := by decide +kernel
theorem dX12_meet_64 : decode cX12_meet 64 = .ok (.ifCond .eq 20, 3) := by decide +kernel
theorem dX12_meet_67 : decode cX12_meet 67 = .ok (.aload_n 0, 1) := by decide +kernel
theorem dX12_meet_68 : decode cX12_meet 68 = .ok (.getfield 37, 3) := by decide +kernel
theorem dX12_meet_71 : decode cX12_meet 71 = .ok (.bipush 6, 2) := by decide +kernel
theorem dX12_meet_73 : decode cX12_meet 73 = .ok (.iload_n 2, 1) := by decide +kernel
theorem dX12_meet_74 : decode cX12_meet 74 = .ok (.imul, 1) := by decide +kernel
theorem dX12_meet_75 : decode cX12_meet 75 = .ok (.iload 4, 2) := by decide +kernel
theorem dX12_meet_77 : decode cX12_meet 77 = .ok (.iadd, 1) := by decide +kernel
theorem dX12_meet_78 : decode cX12_meet 78 = .ok (.baload, 1) := by decide +kernel
theorem dX12_meet_79 : decode cX12_meet 79 = .ok (.ifCond .ne 5, 3) := by decide +kernel
theorem dX12_meet_82 : decode cX12_meet 82 = .ok (.iconst 1, 1) := by decide +kernel
theorem dX12_meet_83 : decode cX12_meet 83 = .ok (.ireturn, 1) := by decide +kernel
theorem dX12_meet_84 : decode cX12_meet 84 = .ok (.aload_n 0, 1) := by decide +kernel
theorem dX12_meet_85 : decode cX12_meet 85 = .ok (.iload_n 1, 1) := by decide +kernel
theorem dX12_meet_86 : decode cX12_meet 86 = .ok (.iload_n 2, 1) := by decide +kernel
theorem dX12_meet_87 : decode cX12_meet 87 = .ok (.iload_n 3, 1) := by decide +kernel
theorem dX12_meet_88 : decode cX12_meet 88 = .ok (.iload 6, 2) := by decide +kernel
theorem dX12_meet_90 : decode cX12_meet 90 = .ok (.iload 5, 2) := by decide +kernel
theorem dX12_meet_92 : decode cX12_meet 92 = .ok (.invokevirtual 299, 3) := by decide +kernel
theorem dX12_meet_95 : decode cX12_meet 95 = .ok (.ifCond .eq 22, 3) := by decide +kernel
theorem dX12_meet_98 : decode cX12_meet 98 = .ok (.aload_n 0, 1) := by decide +kernel
theorem dX12_meet_99 : decode cX12_meet 99 = .ok (.iload_n 3, 1) := by decide +kernel
theorem dX12_meet_100 : decode cX12_meet 100 = .ok (.iload 4, 2) := by decide +kernel
theorem dX12_meet_102 : decode cX12_meet 102 = .ok (.iload_n 1, 1) := by decide +kernel
theorem dX12_meet_103 : decode cX12_meet 103 = .ok (.iload 6, 2) := by decide +kernel
theorem dX12_meet_105 : decode cX12_meet 105 = .ok (.iload 5, 2) := by decide +kernel
theorem dX12_meet_107 : decode cX12_meet 107 = .ok (.invokevirtual 299, 3) := by decide +kernel
theorem dX12_meet_110 : decode cX12_meet 110 = .ok (.ifCond .eq 7, 3) := by decide +kernel
theorem dX12_meet_113 : decode cX12_meet 113 = .ok (.iconst 1, 1) := by decide +kernel
theorem dX12_meet_114 : decode cX12_meet 114 = .ok (.goto 4, 3) := by decide +kernel
theorem dX12_meet_117 : decode cX12_meet 117 = .ok (.iconst 0, 1) := by decide +kernel
theorem dX12_meet_118 : decode cX12_meet 118 = .ok (.ireturn, 1) := by decide +kernel
theorem dX12_plan_0 : decode cX12_plan 0 = .ok (.aload_n 0, 1) := by decide +kernel
theorem dX12_plan_1 : decode cX12_plan 1 = .ok (.iconst (-1), 1) := by decide +kernel
theorem dX12_plan_2 : decode cX12_plan 2 = .ok (.invokevirtual 303, 3) := by decide +kernel
theorem dX12_plan_5 : decode cX12_plan 5 = .ok (.istore_n 1, 1) := by decide +kernel
theorem dX12_plan_6 : decode cX12_plan 6 = .ok (.iconst 0, 1) := by decide +kernel
theorem dX12_plan_7 : decode cX12_plan 7 = .ok (.istore_n 2, 1) := by decide +kernel
theorem dX12_plan_8 : decode cX12_plan 8 = .ok (.aload_n 0, 1) := by decide +kernel
theorem dX12_plan_9 : decode cX12_plan 9 = .ok (.iconst 0, 1) := by decide +kernel
theorem dX12_plan_10 : decode cX12_plan 10 = .ok (.putfield 306, 3) := by decide +kernel
theorem dX12_plan_13 : decode cX12_plan 13 = .ok (.iconst 0, 1) := by decide +kernel
theorem dX12_plan_14 : decode cX12_plan 14 = .ok (.istore_n 3, 1) := by decide +kernel
theorem dX12_plan_15 : decode cX12_plan 15 = .ok (.iload_n 3, 1) := by decide +kernel
theorem dX12_plan_16 : decode cX12_plan 16 = .ok (.bipush 12, 2) := by decide +kernel
theorem dX12_plan_18 : decode cX12_plan 18 = .ok (.if_icmp .ge 16, 3) := by decide +kernel
theorem dX12_plan_21 : decode cX12_plan 21 = .ok (.aload_n 0, 1) := by decide +kernel
theorem dX12_plan_22 : decode cX12_plan 22 = .ok (.getfield 81, 3) := by decide +kernel
theorem dX12_plan_25 : decode cX12_plan 25 = .ok (.iload_n 3, 1) := by decide +kernel
theorem dX12_plan_26 : decode cX12_plan 26 = .ok (.iconst (-1), 1) := by decide +kernel
theorem dX12_plan_27 : decode cX12_plan 27 = .ok (.iastore, 1) := by decide +kernel
theorem dX12_plan_28 : decode cX12_plan 28 = .ok (.iinc 3 1, 3) := by decide +kernel
theorem dX12_plan_31 : decode cX12_plan 31 = .ok (.goto (-16), 3) := by decide +kernel
theorem dX12_plan_34 : decode cX12_plan 34 = .ok (.iload_n 1, 1) := by decide +kernel
theorem dX12_plan_35 : decode cX12_plan 35 = .ok (.ifCond .lt 111, 3) := by decide +kernel
theorem dX12_plan_38 : decode cX12_plan 38 = .ok (.iload_n 1, 1) := by decide +kernel
theorem dX12_plan_39 : decode cX12_plan 39 = .ok (.aload_n 0, 1) := by decide +kernel
theorem dX12_plan_40 : decode cX12_plan 40 = .ok (.getfield 132, 3) := by decide +kernel
theorem dX12_plan_43 : decode cX12_plan 43 = .ok (.if_icmp .ge 103, 3) := by decide +kernel
theorem dX12_plan_46 : decode cX12_plan 46 = .ok (.iload_n 2, 1) := by decide +kernel
theorem dX12_plan_47 : decode cX12_plan 47 = .ok (.bipush 24, 2) := by decide +kernel
theorem dX12_plan_49 : decode cX12_plan 49 = .ok (.if_icmp .ne 41, 3) := by decide +kernel
theorem dX12_plan_52 : decode cX12_plan 52 = .ok (.aload_n 0, 1) := by decide +kernel
theorem dX12_plan_53 : decode cX12_plan 53 = .ok (.getfield 81, 3) := by decide +kernel
theorem dX12_plan_56 : decode cX12_plan 56 = .ok (.iload_n 1, 1) := by decide +kernel
theorem dX12_plan_57 : decode cX12_plan 57 = .ok (.iconst (-1), 1) := by decide +kernel
theorem dX12_plan_58 : decode cX12_plan 58 = .ok (.iastore, 1) := by decide +kernel
theorem dX12_plan_59 : decode cX12_plan 59 = .ok (.aload_n 0, 1) := by decide +kernel
theorem dX12_plan_60 : decode cX12_plan 60 = .ok (.iload_n 1, 1) := by decide +kernel
theorem dX12_plan_61 : decode cX12_plan 61 = .ok (.invokevirtual 309, 3) := by decide +kernel
theorem dX12_plan_64 : decode cX12_plan 64 = .ok (.istore_n 1, 1) := by decide +kernel
theorem dX12_plan_65 : decode cX12_plan 65 = .ok (.iload_n 1, 1) := by decide +kernel
theorem dX12_plan_66 : decode cX12_plan 66 = .ok (.ifCond .ge 5, 3) := by decide +kernel
theorem dX12_plan_69 : decode cX12_plan 69 = .ok (.iconst 0, 1) := by decide +kernel
theorem dX12_plan_70 : decode cX12_plan 70 = .ok (.ireturn, 1) := by decide +kernel
theorem dX12_plan_71 : decode cX12_plan 71 = .ok (.aload_n 0, 1) := by decide +kernel
theorem dX12_plan_72 : decode cX12_plan 72 = .ok (.getfield 81, 3) := by decide +kernel
theorem dX12_plan_75 : decode cX12_plan 75 = .ok (.iload_n 1, 1) := by decide +kernel
theorem dX12_plan_76 : decode cX12_plan 76 = .ok (.iaload, 1) := by decide +kernel
theorem dX12_plan_77 : decode cX12_plan 77 = .ok (.iconst 1, 1) := by decide +kernel
theorem dX12_plan_78 : decode cX12_plan 78 = .ok (.iadd, 1) := by decide +kernel
theorem dX12_plan_79 : decode cX12_plan 79 = .ok (.istore_n 2, 1) := by decide +kernel
theorem dX12_plan_80 : decode cX12_plan 80 = .ok (.aload_n 0, 1) := by decide +kernel
theorem dX12_plan_81 : decode cX12_plan 81 = .ok (.getfield 81, 3) := by decide +kernel
theorem dX12_plan_84 : decode cX12_plan 84 = .ok (.iload_n 1, 1) := by decide +kernel
theorem dX12_plan_85 : decode cX12_plan 85 = .ok (.iconst (-1), 1) := by decide +kernel
theorem dX12_plan_86 : decode cX12_plan 86 = .ok (.iastore, 1) := by decide +kernel
theorem dX12_plan_87 : decode cX12_plan 87 = .ok (.goto (-53), 3) := by decide +kernel
theorem dX12_plan_90 : decode cX12_plan 90 = .ok (.aload_n 0, 1) := by decide +kernel
theorem dX12_plan_91 : decode cX12_plan 91 = .ok (.getfield 306, 3) := by decide +kernel
theorem dX12_plan_94 : decode cX12_plan 94 = .ok (.sipush 20000, 3) := by decide +kernel
theorem dX12_plan_97 : decode cX12_plan 97 = .ok (.if_icmp .ne 6, 3) := by decide +kernel
theorem dX12_plan_100 : decode cX12_plan 100 = .ok (.bipush (-2), 2) := by decide +kernel
theorem dX12_plan_102 : decode cX12_plan 102 = .ok (.ireturn, 1) := by decide +kernel
theorem dX12_plan_103 : decode cX12_plan 103 = .ok (.aload_n 0, 1) := by decide +kernel
theorem dX12_plan_104 : decode cX12_plan 104 = .ok (.dup, 1) := by decide +kernel
theorem dX12_plan_105 : decode cX12_plan 105 = .ok (.getfield 306, 3) := by decide +kernel
theorem dX12_plan_108 : decode cX12_plan 108 = .ok (.iconst 1, 1) := by decide +kernel
theorem dX12_plan_109 : decode cX12_plan 109 = .ok (.iadd, 1) := by decide +kernel
theorem dX12_plan_110 : decode cX12_plan 110 = .ok (.putfield 306, 3) := by decide +kernel
theorem dX12_plan_113 : decode cX12_plan 113 = .ok (.aload_n 0, 1) := by decide +kernel
theorem dX12_plan_114 : decode cX12_plan 114 = .ok (.iload_n 1, 1) := by decide +kernel
theorem dX12_plan_115 : decode cX12_plan 115 = .ok (.iload_n 2, 1) := by decide +kernel
theorem dX12_plan_116 : decode cX12_plan 116 = .ok (.invokevirtual 312, 3) := by decide +kernel
theorem dX12_plan_119 : decode cX12_plan 119 = .ok (.ifCond .eq 21, 3) := by decide +kernel
theorem dX12_plan_122 : decode cX12_plan 122 = .ok (.aload_n 0, 1) := by decide +kernel
theorem dX12_plan_123 : decode cX12_plan 123 = .ok (.getfield 81, 3) := by decide +kernel
theorem dX12_plan_126 : decode cX12_plan 126 = .ok (.iload_n 1, 1) := by decide +kernel
theorem dX12_plan_127 : decode cX12_plan 127 = .ok (.iload_n 2, 1) := by decide +kernel
theorem dX12_plan_128 : decode cX12_plan 128 = .ok (.iastore, 1) := by decide +kernel
theorem dX12_plan_129 : decode cX12_plan 129 = .ok (.aload_n 0, 1) := by decide +kernel
theorem dX12_plan_130 : decode cX12_plan 130 = .ok (.iload_n 1, 1) := by decide +kernel
theorem dX12_plan_131 : decode cX12_plan 131 = .ok (.invokevirtual 303, 3) := by decide +kernel
theorem dX12_plan_134 : decode cX12_plan 134 = .ok (.istore_n 1, 1) := by decide +kernel
theorem dX12_plan_135 : decode cX12_plan 135 = .ok (.iconst 0, 1) := by decide +kernel
theorem dX12_plan_136 : decode cX12_plan 136 = .ok (.istore_n 2, 1) := by decide +kernel
theorem dX12_plan_137 : decode cX12_plan 137 = .ok (.goto (-103), 3) := by decide +kernel
theorem dX12_plan_140 : decode cX12_plan 140 = .ok (.iinc 2 1, 3) := by decide +kernel
theorem dX12_plan_143 : decode cX12_plan 143 = .ok (.goto (-109), 3) := by decide +kernel
theorem dX12_plan_146 : decode cX12_plan 146 = .ok (.iconst 0, 1) := by decide +kernel
theorem dX12_plan_147 : decode cX12_plan 147 = .ok (.istore_n 3, 1) := by decide +kernel
theorem dX12_plan_148 : decode cX12_plan 148 = .ok (.iload_n 3, 1) := by decide +kernel
theorem dX12_plan_149 : decode cX12_plan 149 = .ok (.bipush 12, 2) := by decide +kernel
theorem dX12_plan_151 : decode cX12_plan 151 = .ok (.if_icmp .ge 21, 3) := by decide +kernel
theorem dX12_plan_154 : decode cX12_plan 154 = .ok (.aload_n 0, 1) := by decide +kernel
theorem dX12_plan_155 : decode cX12_plan 155 = .ok (.getfield 84, 3) := by decide +kernel
theorem dX12_plan_158 : decode cX12_plan 158 = .ok (.iload_n 3, 1) := by decide +kernel
theorem dX12_plan_159 : decode cX12_plan 159 = .ok (.aload_n 0, 1) := by decide +kernel
theorem dX12_plan_160 : decode cX12_plan 160 = .ok (.getfield 81, 3) := by decide +kernel
theorem dX12_plan_163 : decode cX12_plan 163 = .ok (.iload_n 3, 1) := by decide +kernel
theorem dX12_plan_164 : decode cX12_plan 164 = .ok (.iaload, 1) := by decide +kernel
theorem dX12_plan_165 : decode cX12_plan 165 = .ok (.iastore, 1) := by decide +kernel
theorem dX12_plan_166 : decode cX12_plan 166 = .ok (.iinc 3 1, 3) := by decide +kernel
theorem dX12_plan_169 : decode cX12_plan 169 = .ok (.goto (-21), 3) := by decide +kernel
theorem dX12_plan_172 : decode cX12_plan 172 = .ok (.aload_n 0, 1) := by decide +kernel
theorem dX12_plan_173 : decode cX12_plan 173 = .ok (.iconst 1, 1) := by decide +kernel
theorem dX12_plan_174 : decode cX12_plan 174 = .ok (.putfield 138, 3) := by decide +kernel
theorem dX12_plan_177 : decode cX12_plan 177 = .ok (.iconst 1, 1) := by decide +kernel
theorem dX12_plan_178 : decode cX12_plan 178 = .ok (.ireturn, 1) := by decide +kernel
theorem dX12_nextOf_0 : decode cX12_nextOf 0 = .ok (.iload_n 1, 1) := by decide +kernel
theorem dX12_nextOf_1 : decode cX12_nextOf 1 = .ok (.iconst 1, 1) := by decide +kernel
theorem dX12_nextOf_2 : decode cX12_nextOf 2 = .ok (.iadd, 1) := by decide +kernel
theorem dX12_nextOf_3 : decode cX12_nextOf 3 = .ok (.istore_n 2, 1) := by decide +kernel
theorem dX12_nextOf_4 : decode cX12_nextOf 4 = .ok (.iload_n 2, 1) := by decide +kernel
theorem dX12_nextOf_5 : decode cX12_nextOf 5 = .ok (.aload_n 0, 1) := by decide +kernel
theorem dX12_nextOf_6 : decode cX12_nextOf 6 = .ok (.getfield 132, 3) := by decide +kernel
theorem dX12_nextOf_9 : decode cX12_nextOf 9 = .ok (.if_icmp .ge 19, 3) := by decide +kernel
theorem dX12_nextOf_12 : decode cX12_nextOf 12 = .ok (.aload_n 0, 1) := by decide +kernel
theorem dX12_nextOf_13 : decode cX12_nextOf 13 = .ok (.getfield 19, 3) := by decide +kernel
theorem dX12_nextOf_16 : decode cX12_nextOf 16 = .ok (.iload_n 2, 1) := by decide +kernel
theorem dX12_nextOf_17 : decode cX12_nextOf 17 = .ok (.iaload, 1) := by decide +kernel
theorem dX12_nextOf_18 : decode cX12_nextOf 18 = .ok (.iconst 1, 1) := by decide +kernel
theorem dX12_nextOf_19 : decode cX12_nextOf 19 = .ok (.if_icmp .ne 9, 3) := by decide +kernel
theorem dX12_nextOf_22 : decode cX12_nextOf 22 = .ok (.iinc 2 1, 3) := by decide +kernel
theorem dX12_nextOf_25 : decode cX12_nextOf 25 = .ok (.goto (-21), 3) := by decide +kernel
theorem dX12_nextOf_28 : decode cX12_nextOf 28 = .ok (.iload_n 2, 1) := by decide +kernel
theorem dX12_nextOf_29 : decode cX12_nextOf 29 = .ok (.ireturn, 1) := by decide +kernel
theorem dX12_lastOf_0 : decode cX12_lastOf 0 = .ok (.iload_n 1, 1) := by decide +kernel
theorem dX12_lastOf_1 : decode cX12_lastOf 1 = .ok (.iconst 1, 1) := by decide +kernel
theorem dX12_lastOf_2 : decode cX12_lastOf 2 = .ok (.isub, 1) := by decide +kernel
theorem dX12_lastOf_3 : decode cX12_lastOf 3 = .ok (.istore_n 2, 1) := by decide +kernel
theorem dX12_lastOf_4 : decode cX12_lastOf 4 = .ok (.iload_n 2, 1) := by decide +kernel
theorem dX12_lastOf_5 : decode cX12_lastOf 5 = .ok (.ifCond .lt 19, 3) := by decide +kernel
theorem dX12_lastOf_8 : decode cX12_lastOf 8 = .ok (.aload_n 0, 1) := by decide +kernel
theorem dX12_lastOf_9 : decode cX12_lastOf 9 = .ok (.getfield 19, 3) := by decide +kernel
theorem dX12_lastOf_12 : decode cX12_lastOf 12 = .ok (.iload_n 2, 1) := by decide +kernel
theorem dX12_lastOf_13 : decode cX12_lastOf 13 = .ok (.iaload, 1) := by decide +kernel
theorem dX12_lastOf_14 : decode cX12_lastOf 14 = .ok (.iconst 1, 1) := by decide +kernel
theorem dX12_lastOf_15 : decode cX12_lastOf 15 = .ok (.if_icmp .ne 9, 3) := by decide +kernel
theorem dX12_lastOf_18 : decode cX12_lastOf 18 = .ok (.iinc 2 (-1), 3) := by decide +kernel
theorem dX12_lastOf_21 : decode cX12_lastOf 21 = .ok (.goto (-17), 3) := by decide +kernel
theorem dX12_lastOf_24 : decode cX12_lastOf 24 = .ok (.iload_n 2, 1) := by decide +kernel
theorem dX12_lastOf_25 : decode cX12_lastOf 25 = .ok (.ireturn, 1) := by decide +kernel
theorem dX12_fits_0 : decode cX12_fits 0 = .ok (.iload_n 2, 1) := by decide +kernel
theorem dX12_fits_1 : decode cX12_fits 1 = .ok (.bipush 6, 2) := by decide +kernel
theorem dX12_fits_3 : decode cX12_fits 3 = .ok (.idiv, 1) := by decide +kernel
theorem dX12_fits_4 : decode cX12_fits 4 = .ok (.istore_n 3, 1) := by decide +kernel
theorem dX12_fits_5 : decode cX12_fits 5 = .ok (.iload_n 2, 1) := by decide +kernel
theorem dX12_fits_6 : decode cX12_fits 6 = .ok (.bipush 6, 2) := by decide +kernel
theorem dX12_fits_8 : decode cX12_fits 8 = .ok (.irem, 1) := by decide +kernel
theorem dX12_fits_9 : decode cX12_fits 9 = .ok (.istore 4, 2) := by decide +kernel
theorem dX12_fits_11 : decode cX12_fits 11 = .ok (.aload_n 0, 1) := by decide +kernel
theorem dX12_fits_12 : decode cX12_fits 12 = .ok (.iload_n 1, 1) := by decide +kernel
theorem dX12_fits_13 : decode cX12_fits 13 = .ok (.iload 4, 2) := by decide +kernel
theorem dX12_fits_15 : decode cX12_fits 15 = .ok (.iload_n 3, 1) := by decide +kernel
theorem dX12_fits_16 : decode cX12_fits 16 = .ok (.invokevirtual 316, 3) := by decide +kernel
theorem dX12_fits_19 : decode cX12_fits 19 = .ok (.ifCond .ne 5, 3) := by decide +kernel
theorem dX12_fits_22 : decode cX12_fits 22 = .ok (.iconst 0, 1) := by decide +kernel
theorem dX12_fits_23 : decode cX12_fits 23 = .ok (.ireturn, 1) := by decide +kernel
theorem dX12_fits_24 : decode cX12_fits 24 = .ok (.iconst 0, 1) := by decide +kernel
theorem dX12_fits_25 : decode cX12_fits 25 = .ok (.istore 5, 2) := by decide +kernel
theorem dX12_fits_27 : decode cX12_fits 27 = .ok (.iconst 0, 1) := by decide +kernel
theorem dX12_fits_28 : decode cX12_fits 28 = .ok (.istore 6, 2) := by decide +kernel
theorem dX12_fits_30 : decode cX12_fits 30 = .ok (.iload 6, 2) := by decide +kernel
theorem dX12_fits_32 : decode cX12_fits 32 = .ok (.iload_n 1, 1) := by decide +kernel
theorem dX12_fits_33 : decode cX12_fits 33 = .ok (.if_icmp .ge 30, 3) := by decide +kernel
theorem dX12_fits_36 : decode cX12_fits 36 = .ok (.iload 5, 2) := by decide +kernel
theorem dX12_fits_38 : decode cX12_fits 38 = .ok (.aload_n 0, 1) := by decide +kernel
theorem dX12_fits_39 : decode cX12_fits 39 = .ok (.getfield 81, 3) := by decide +kernel
theorem dX12_fits_42 : decode cX12_fits 42 = .ok (.iload 6, 2) := by decide +kernel
theorem dX12_fits_44 : decode cX12_fits 44 = .ok (.iaload, 1) := by decide +kernel
theorem dX12_fits_45 : decode cX12_fits 45 = .ok (.iload_n 2, 1) := by decide +kernel
theorem dX12_fits_46 : decode cX12_fits 46 = .ok (.if_icmp .ne 7, 3) := by decide +kernel
theorem dX12_fits_49 : decode cX12_fits 49 = .ok (.iconst 1, 1) := by decide +kernel
theorem dX12_fits_50 : decode cX12_fits 50 = .ok (.goto 4, 3) := by decide +kernel
theorem dX12_fits_53 : decode cX12_fits 53 = .ok (.iconst 0, 1) := by decide +kernel
theorem dX12_fits_54 : decode cX12_fits 54 = .ok (.iadd, 1) := by decide +kernel
theorem dX12_fits_55 : decode cX12_fits 55 = .ok (.istore 5, 2) := by decide +kernel
theorem dX12_fits_57 : decode cX12_fits 57 = .ok (.iinc 6 1, 3) := by decide +kernel
theorem dX12_fits_60 : decode cX12_fits 60 = .ok (.goto (-30), 3) := by decide +kernel
theorem dX12_fits_63 : decode cX12_fits 63 = .ok (.iload 5, 2) := by decide +kernel
theorem dX12_fits_65 : decode cX12_fits 65 = .ok (.aload_n 0, 1) := by decide +kernel
theorem dX12_fits_66 : decode cX12_fits 66 = .ok (.getfield 28, 3) := by decide +kernel
theorem dX12_fits_69 : decode cX12_fits 69 = .ok (.iload 4, 2) := by decide +kernel
theorem dX12_fits_71 : decode cX12_fits 71 = .ok (.iaload, 1) := by decide +kernel
theorem dX12_fits_72 : decode cX12_fits 72 = .ok (.if_icmp .ge 7, 3) := by decide +kernel
theorem dX12_fits_75 : decode cX12_fits 75 = .ok (.iconst 1, 1) := by decide +kernel
theorem dX12_fits_76 : decode cX12_fits 76 = .ok (.goto 4, 3) := by decide +kernel
theorem dX12_fits_79 : decode cX12_fits 79 = .ok (.iconst 0, 1) := by decide +kernel
theorem dX12_fits_80 : decode cX12_fits 80 = .ok (.istore 6, 2) := by decide +kernel
theorem dX12_fits_82 : decode cX12_fits 82 = .ok (.iconst 0, 1) := by decide +kernel
theorem dX12_fits_83 : decode cX12_fits 83 = .ok (.istore 7, 2) := by decide +kernel
theorem dX12_fits_85 : decode cX12_fits 85 = .ok (.iload 7, 2) := by decide +kernel
theorem dX12_fits_87 : decode cX12_fits 87 = .ok (.iload_n 1, 1) := by decide +kernel
theorem dX12_fits_88 : decode cX12_fits 88 = .ok (.if_icmp .ge 68, 3) := by decide +kernel
theorem dX12_fits_91 : decode cX12_fits 91 = .ok (.iload 6, 2) := by decide +kernel
theorem dX12_fits_93 : decode cX12_fits 93 = .ok (.ifCond .eq 63, 3) := by decide +kernel
theorem dX12_fits_96 : decode cX12_fits 96 = .ok (.aload_n 0, 1) := by decide +kernel
theorem dX12_fits_97 : decode cX12_fits 97 = .ok (.getfield 81, 3) := by decide +kernel
theorem dX12_fits_100 : decode cX12_fits 100 = .ok (.iload 7, 2) := by decide +kernel
theorem dX12_fits_102 : decode cX12_fits 102 = .ok (.iaload, 1) := by decide +kernel
theorem dX12_fits_103 : decode cX12_fits 103 = .ok (.ifCond .lt 40, 3) := by decide +kernel
theorem dX12_fits_106 : decode cX12_fits 106 = .ok (.aload_n 0, 1) := by decide +kernel
theorem dX12_fits_107 : decode cX12_fits 107 = .ok (.getfield 81, 3) := by decide +kernel
theorem dX12_fits_110 : decode cX12_fits 110 = .ok (.iload 7, 2) := by decide +kernel
theorem dX12_fits_112 : decode cX12_fits 112 = .ok (.iaload, 1) := by decide +kernel
theorem dX12_fits_113 : decode cX12_fits 113 = .ok (.bipush 6, 2) := by decide +kernel
theorem dX12_fits_115 : decode cX12_fits 115 = .ok (.idiv, 1) := by decide +kernel
theorem dX12_fits_116 : decode cX12_fits 116 = .ok (.iload_n 3, 1) := by decide +kernel
theorem dX12_fits_117 : decode cX12_fits 117 = .ok (.if_icmp .ne 26, 3) := by decide +kernel
theorem dX12_fits_120 : decode cX12_fits 120 = .ok (.aload_n 0, 1) := by decide +kernel
theorem dX12_fits_121 : decode cX12_fits 121 = .ok (.iload_n 1, 1) := by decide +kernel
theorem dX12_fits_122 : decode cX12_fits 122 = .ok (.iload 4, 2) := by decide +kernel
theorem dX12_fits_124 : decode cX12_fits 124 = .ok (.iload 7, 2) := by decide +kernel
theorem dX12_fits_126 : decode cX12_fits 126 = .ok (.aload_n 0, 1) := by decide +kernel
theorem dX12_fits_127 : decode cX12_fits 127 = .ok (.getfield 81, 3) := by decide +kernel
theorem dX12_fits_130 : decode cX12_fits 130 = .ok (.iload 7, 2) := by decide +kernel
theorem dX12_fits_132 : decode cX12_fits 132 = .ok (.iaload, 1) := by decide +kernel
theorem dX12_fits_133 : decode cX12_fits 133 = .ok (.bipush 6, 2) := by decide +kernel
theorem dX12_fits_135 : decode cX12_fits 135 = .ok (.irem, 1) := by decide +kernel
theorem dX12_fits_136 : decode cX12_fits 136 = .ok (.iload_n 3, 1) := by decide +kernel
theorem dX12_fits_137 : decode cX12_fits 137 = .ok (.invokevirtual 320, 3) := by decide +kernel
theorem dX12_fits_140 : decode cX12_fits 140 = .ok (.ifCond .eq 7, 3) := by decide +kernel
theorem dX12_fits_143 : decode cX12_fits 143 = .ok (.iconst 1, 1) := by decide +kernel
theorem dX12_fits_144 : decode cX12_fits 144 = .ok (.goto 4, 3) := by decide +kernel
theorem dX12_fits_147 : decode cX12_fits 147 = .ok (.iconst 0, 1) := by decide +kernel
theorem dX12_fits_148 : decode cX12_fits 148 = .ok (.istore 6, 2) := by decide +kernel
theorem dX12_fits_150 : decode cX12_fits 150 = .ok (.iinc 7 1, 3) := by decide +kernel
theorem dX12_fits_153 : decode cX12_fits 153 = .ok (.goto (-68), 3) := by decide +kernel
theorem dX12_fits_156 : decode cX12_fits 156 = .ok (.iload 6, 2) := by decide +kernel
theorem dX12_fits_158 : decode cX12_fits 158 = .ok (.ireturn, 1) := by decide +kernel
theorem dX12_tries_0 : decode cX12_tries 0 = .ok (.aload_n 0, 1) := by decide +kernel
theorem dX12_tries_1 : decode cX12_tries 1 = .ok (.getfield 306, 3) := by decide +kernel
theorem dX12_tries_4 : decode cX12_tries 4 = .ok (.ireturn, 1) := by decide +kernel
theorem dX12_out_0 : decode cX12_out 0 = .ok (.aload_n 0, 1) := by decide +kernel
theorem dX12_out_1 : decode cX12_out 1 = .ok (.getfield 138, 3) := by decide +kernel
theorem dX12_out_4 : decode cX12_out 4 = .ok (.ifCond .eq 45, 3) := by decide +kernel
theorem dX12_out_7 : decode cX12_out 7 = .ok (.aload_n 0, 1) := by decide +kernel
theorem dX12_out_8 : decode cX12_out 8 = .ok (.iload_n 1, 1) := by decide +kernel
theorem dX12_out_9 : decode cX12_out 9 = .ok (.invokevirtual 142, 3) := by decide +kernel
theorem dX12_out_12 : decode cX12_out 12 = .ok (.ifCond .eq 37, 3) := by decide +kernel
theorem dX12_out_15 : decode cX12_out 15 = .ok (.aload_n 0, 1) := by decide +kernel
theorem dX12_out_16 : decode cX12_out 16 = .ok (.getfield 84, 3) := by decide +kernel
theorem dX12_out_19 : decode cX12_out 19 = .ok (.iload_n 1, 1) := by decide +kernel
theorem dX12_out_20 : decode cX12_out 20 = .ok (.iaload, 1) := by decide +kernel
theorem dX12_out_21 : decode cX12_out 21 = .ok (.ifCond .lt 28, 3) := by decide +kernel
theorem dX12_out_24 : decode cX12_out 24 = .ok (.bipush 10, 2) := by decide +kernel
theorem dX12_out_26 : decode cX12_out 26 = .ok (.aload_n 0, 1) := by decide +kernel
theorem dX12_out_27 : decode cX12_out 27 = .ok (.getfield 84, 3) := by decide +kernel
theorem dX12_out_30 : decode cX12_out 30 = .ok (.iload_n 1, 1) := by decide +kernel
theorem dX12_out_31 : decode cX12_out 31 = .ok (.iaload, 1) := by decide +kernel
theorem dX12_out_32 : decode cX12_out 32 = .ok (.bipush 6, 2) := by decide +kernel
theorem dX12_out_34 : decode cX12_out 34 = .ok (.idiv, 1) := by decide +kernel
theorem dX12_out_35 : decode cX12_out 35 = .ok (.imul, 1) := by decide +kernel
theorem dX12_out_36 : decode cX12_out 36 = .ok (.aload_n 0, 1) := by decide +kernel
theorem dX12_out_37 : decode cX12_out 37 = .ok (.getfield 84, 3) := by decide +kernel
theorem dX12_out_40 : decode cX12_out 40 = .ok (.iload_n 1, 1) := by decide +kernel
theorem dX12_out_41 : decode cX12_out 41 = .ok (.iaload, 1) := by decide +kernel
theorem dX12_out_42 : decode cX12_out 42 = .ok (.bipush 6, 2) := by decide +kernel
theorem dX12_out_44 : decode cX12_out 44 = .ok (.irem, 1) := by decide +kernel
theorem dX12_out_45 : decode cX12_out 45 = .ok (.iadd, 1) := by decide +kernel
theorem dX12_out_46 : decode cX12_out 46 = .ok (.goto 4, 3) := by decide +kernel
theorem dX12_out_49 : decode cX12_out 49 = .ok (.iconst (-1), 1) := by decide +kernel
theorem dX12_out_50 : decode cX12_out 50 = .ok (.ireturn, 1) := by decide +kernel
theorem dX12_stuck_0 : decode cX12_stuck 0 = .ok (.iconst 0, 1) := by decide +kernel
theorem dX12_stuck_1 : decode cX12_stuck 1 = .ok (.istore_n 1, 1) := by decide +kernel
theorem dX12_stuck_2 : decode cX12_stuck 2 = .ok (.iload_n 1, 1) := by decide +kernel
theorem dX12_stuck_3 : decode cX12_stuck 3 = .ok (.aload_n 0, 1) := by decide +kernel
theorem dX12_stuck_4 : decode cX12_stuck 4 = .ok (.getfield 132, 3) := by decide +kernel
theorem dX12_stuck_7 : decode cX12_stuck 7 = .ok (.if_icmp .ge 63, 3) := by decide +kernel
theorem dX12_stuck_10 : decode cX12_stuck 10 = .ok (.aload_n 0, 1) := by decide +kernel
theorem dX12_stuck_11 : decode cX12_stuck 11 = .ok (.getfield 19, 3) := by decide +kernel
theorem dX12_stuck_14 : decode cX12_stuck 14 = .ok (.iload_n 1, 1) := by decide +kernel
theorem dX12_stuck_15 : decode cX12_stuck 15 = .ok (.iaload, 1) := by decide +kernel
theorem dX12_stuck_16 : decode cX12_stuck 16 = .ok (.iconst 1, 1) := by decide +kernel
theorem dX12_stuck_17 : decode cX12_stuck 17 = .ok (.if_icmp .ne 7, 3) := by decide +kernel
theorem dX12_stuck_20 : decode cX12_stuck 20 = .ok (.iconst 1, 1) := by decide +kernel
theorem dX12_stuck_21 : decode cX12_stuck 21 = .ok (.goto 4, 3) := by decide +kernel
theorem dX12_stuck_24 : decode cX12_stuck 24 = .ok (.iconst 0, 1) := by decide +kernel
theorem dX12_stuck_25 : decode cX12_stuck 25 = .ok (.istore_n 2, 1) := by decide +kernel
theorem dX12_stuck_26 : decode cX12_stuck 26 = .ok (.iconst 0, 1) := by decide +kernel
theorem dX12_stuck_27 : decode cX12_stuck 27 = .ok (.istore_n 3, 1) := by decide +kernel
theorem dX12_stuck_28 : decode cX12_stuck 28 = .ok (.iload_n 3, 1) := by decide +kernel
theorem dX12_stuck_29 : decode cX12_stuck 29 = .ok (.bipush 24, 2) := by decide +kernel
theorem dX12_stuck_31 : decode cX12_stuck 31 = .ok (.if_icmp .ge 27, 3) := by decide +kernel
theorem dX12_stuck_34 : decode cX12_stuck 34 = .ok (.iload_n 2, 1) := by decide +kernel
theorem dX12_stuck_35 : decode cX12_stuck 35 = .ok (.ifCond .ne 23, 3) := by decide +kernel
theorem dX12_stuck_38 : decode cX12_stuck 38 = .ok (.aload_n 0, 1) := by decide +kernel
theorem dX12_stuck_39 : decode cX12_stuck 39 = .ok (.iload_n 1, 1) := by decide +kernel
theorem dX12_stuck_40 : decode cX12_stuck 40 = .ok (.iload_n 3, 1) := by decide +kernel
theorem dX12_stuck_41 : decode cX12_stuck 41 = .ok (.bipush 6, 2) := by decide +kernel
theorem dX12_stuck_43 : decode cX12_stuck 43 = .ok (.irem, 1) := by decide +kernel
theorem dX12_stuck_44 : decode cX12_stuck 44 = .ok (.iload_n 3, 1) := by decide +kernel
theorem dX12_stuck_45 : decode cX12_stuck 45 = .ok (.bipush 6, 2) := by decide +kernel
theorem dX12_stuck_47 : decode cX12_stuck 47 = .ok (.idiv, 1) := by decide +kernel
theorem dX12_stuck_48 : decode cX12_stuck 48 = .ok (.invokevirtual 316, 3) := by decide +kernel
theorem dX12_stuck_51 : decode cX12_stuck 51 = .ok (.istore_n 2, 1) := by decide +kernel
theorem dX12_stuck_52 : decode cX12_stuck 52 = .ok (.iinc 3 1, 3) := by decide +kernel
theorem dX12_stuck_55 : decode cX12_stuck 55 = .ok (.goto (-27), 3) := by decide +kernel
theorem dX12_stuck_58 : decode cX12_stuck 58 = .ok (.iload_n 2, 1) := by decide +kernel
theorem dX12_stuck_59 : decode cX12_stuck 59 = .ok (.ifCond .ne 5, 3) := by decide +kernel
theorem dX12_stuck_62 : decode cX12_stuck 62 = .ok (.iload_n 1, 1) := by decide +kernel
theorem dX12_stuck_63 : decode cX12_stuck 63 = .ok (.ireturn, 1) := by decide +kernel
theorem dX12_stuck_64 : decode cX12_stuck 64 = .ok (.iinc 1 1, 3) := by decide +kernel
theorem dX12_stuck_67 : decode cX12_stuck 67 = .ok (.goto (-65), 3) := by decide +kernel
theorem dX12_stuck_70 : decode cX12_stuck 70 = .ok (.iconst (-1), 1) := by decide +kernel
theorem dX12_stuck_71 : decode cX12_stuck 71 = .ok (.ireturn, 1) := by decide +kernel
theorem dX12_lot_0 : decode cX12_lot 0 = .ok (.iload_n 1, 1) := by decide +kernel
theorem dX12_lot_1 : decode cX12_lot 1 = .ok (.invokestatic 324, 3) := by decide +kernel
theorem dX12_lot_4 : decode cX12_lot 4 = .ok (.ifCond .eq 40, 3) := by decide +kernel
theorem dX12_lot_7 : decode cX12_lot 7 = .ok (.aload_n 0, 1) := by decide +kernel
theorem dX12_lot_8 : decode cX12_lot 8 = .ok (.getfield 87, 3) := by decide +kernel
theorem dX12_lot_11 : decode cX12_lot 11 = .ok (.iload_n 1, 1) := by decide +kernel
theorem dX12_lot_12 : decode cX12_lot 12 = .ok (.iaload, 1) := by decide +kernel
theorem dX12_lot_13 : decode cX12_lot 13 = .ok (.bipush 20, 2) := by decide +kernel
theorem dX12_lot_15 : decode cX12_lot 15 = .ok (.if_icmp .eq 29, 3) := by decide +kernel
theorem dX12_lot_18 : decode cX12_lot 18 = .ok (.iload_n 2, 1) := by decide +kernel
theorem dX12_lot_19 : decode cX12_lot 19 = .ok (.iconst 1, 1) := by decide +kernel
theorem dX12_lot_20 : decode cX12_lot 20 = .ok (.if_icmp .lt 24, 3) := by decide +kernel
theorem dX12_lot_23 : decode cX12_lot 23 = .ok (.iload_n 2, 1) := by decide +kernel
theorem dX12_lot_24 : decode cX12_lot 24 = .ok (.sipush 10000, 3) := by decide +kernel
theorem dX12_lot_27 : decode cX12_lot 27 = .ok (.if_icmp .gt 17, 3) := by decide +kernel
theorem dX12_lot_30 : decode cX12_lot 30 = .ok (.iload_n 3, 1) := by decide +kernel
theorem dX12_lot_31 : decode cX12_lot 31 = .ok (.aload_n 0, 1) := by decide +kernel
theorem dX12_lot_32 : decode cX12_lot 32 = .ok (.getfield 135, 3) := by decide +kernel
theorem dX12_lot_35 : decode cX12_lot 35 = .ok (.if_icmp .lt 9, 3) := by decide +kernel
theorem dX12_lot_38 : decode cX12_lot 38 = .ok (.iload_n 3, 1) := by decide +kernel
theorem dX12_lot_39 : decode cX12_lot 39 = .ok (.ldc 149, 2) := by decide +kernel
theorem dX12_lot_41 : decode cX12_lot 41 = .ok (.if_icmp .le 5, 3) := by decide +kernel
theorem dX12_lot_44 : decode cX12_lot 44 = .ok (.iconst (-1), 1) := by decide +kernel
theorem dX12_lot_45 : decode cX12_lot 45 = .ok (.ireturn, 1) := by decide +kernel
theorem dX12_lot_46 : decode cX12_lot 46 = .ok (.aload_n 0, 1) := by decide +kernel
theorem dX12_lot_47 : decode cX12_lot 47 = .ok (.getfield 87, 3) := by decide +kernel
theorem dX12_lot_50 : decode cX12_lot 50 = .ok (.iload_n 1, 1) := by decide +kernel
theorem dX12_lot_51 : decode cX12_lot 51 = .ok (.iaload, 1) := by decide +kernel
theorem dX12_lot_52 : decode cX12_lot 52 = .ok (.istore 4, 2) := by decide +kernel
theorem dX12_lot_54 : decode cX12_lot 54 = .ok (.iload 4, 2) := by decide +kernel
theorem dX12_lot_56 : decode cX12_lot 56 = .ok (.ifCond .le 79, 3) := by decide +kernel
theorem dX12_lot_59 : decode cX12_lot 59 = .ok (.aload_n 0, 1) := by decide +kernel
theorem dX12_lot_60 : decode cX12_lot 60 = .ok (.getfield 93, 3) := by decide +kernel
theorem dX12_lot_63 : decode cX12_lot 63 = .ok (.bipush 20, 2) := by decide +kernel
theorem dX12_lot_65 : decode cX12_lot 65 = .ok (.iload_n 1, 1) := by decide +kernel
theorem dX12_lot_66 : decode cX12_lot 66 = .ok (.imul, 1) := by decide +kernel
theorem dX12_lot_67 : decode cX12_lot 67 = .ok (.iload 4, 2) := by decide +kernel
theorem dX12_lot_69 : decode cX12_lot 69 = .ok (.iadd, 1) := by decide +kernel
theorem dX12_lot_70 : decode cX12_lot 70 = .ok (.iconst 1, 1) := by decide +kernel
theorem dX12_lot_71 : decode cX12_lot 71 = .ok (.isub, 1) := by decide +kernel
theorem dX12_lot_72 : decode cX12_lot 72 = .ok (.iaload, 1) := by decide +kernel
theorem dX12_lot_73 : decode cX12_lot 73 = .ok (.iload_n 3, 1) := by decide +kernel
theorem dX12_lot_74 : decode cX12_lot 74 = .ok (.if_icmp .le 61, 3) := by decide +kernel
theorem dX12_lot_77 : decode cX12_lot 77 = .ok (.aload_n 0, 1) := by decide +kernel
theorem dX12_lot_78 : decode cX12_lot 78 = .ok (.getfield 93, 3) := by decide +kernel
theorem dX12_lot_81 : decode cX12_lot 81 = .ok (.bipush 20, 2) := by decide +kernel
theorem dX12_lot_83 : decode cX12_lot 83 = .ok (.iload_n 1, 1) := by decide +kernel
theorem dX12_lot_84 : decode cX12_lot 84 = .ok (.imul, 1) := by decide +kernel
theorem dX12_lot_85 : decode cX12_lot 85 = .ok (.iload 4, 2) := by decide +kernel
theorem dX12_lot_87 : decode cX12_lot 87 = .ok (.iadd, 1) := by decide +kernel
theorem dX12_lot_88 : decode cX12_lot 88 = .ok (.aload_n 0, 1) := by decide +kernel
theorem dX12_lot_89 : decode cX12_lot 89 = .ok (.getfield 93, 3) := by decide +kernel
theorem dX12_lot_92 : decode cX12_lot 92 = .ok (.bipush 20, 2) := by decide +kernel
theorem dX12_lot_94 : decode cX12_lot 94 = .ok (.iload_n 1, 1) := by decide +kernel
theorem dX12_lot_95 : decode cX12_lot 95 = .ok (.imul, 1) := by decide +kernel
theorem dX12_lot_96 : decode cX12_lot 96 = .ok (.iload 4, 2) := by decide +kernel
theorem dX12_lot_98 : decode cX12_lot 98 = .ok (.iadd, 1) := by decide +kernel
theorem dX12_lot_99 : decode cX12_lot 99 = .ok (.iconst 1, 1) := by decide +kernel
theorem dX12_lot_100 : decode cX12_lot 100 = .ok (.isub, 1) := by decide +kernel
theorem dX12_lot_101 : decode cX12_lot 101 = .ok (.iaload, 1) := by decide +kernel
theorem dX12_lot_102 : decode cX12_lot 102 = .ok (.iastore, 1) := by decide +kernel
theorem dX12_lot_103 : decode cX12_lot 103 = .ok (.aload_n 0, 1) := by decide +kernel
theorem dX12_lot_104 : decode cX12_lot 104 = .ok (.getfield 90, 3) := by decide +kernel
theorem dX12_lot_107 : decode cX12_lot 107 = .ok (.bipush 20, 2) := by decide +kernel
theorem dX12_lot_109 : decode cX12_lot 109 = .ok (.iload_n 1, 1) := by decide +kernel
theorem dX12_lot_110 : decode cX12_lot 110 = .ok (.imul, 1) := by decide +kernel
theorem dX12_lot_111 : decode cX12_lot 111 = .ok (.iload 4, 2) := by decide +kernel
theorem dX12_lot_113 : decode cX12_lot 113 = .ok (.iadd, 1) := by decide +kernel
theorem dX12_lot_114 : decode cX12_lot 114 = .ok (.aload_n 0, 1) := by decide +kernel
theorem dX12_lot_115 : decode cX12_lot 115 = .ok (.getfield 90, 3) := by decide +kernel
theorem dX12_lot_118 : decode cX12_lot 118 = .ok (.bipush 20, 2) := by decide +kernel
theorem dX12_lot_120 : decode cX12_lot 120 = .ok (.iload_n 1, 1) := by decide +kernel
theorem dX12_lot_121 : decode cX12_lot 121 = .ok (.imul, 1) := by decide +kernel
theorem dX12_lot_122 : decode cX12_lot 122 = .ok (.iload 4, 2) := by decide +kernel
theorem dX12_lot_124 : decode cX12_lot 124 = .ok (.iadd, 1) := by decide +kernel
theorem dX12_lot_125 : decode cX12_lot 125 = .ok (.iconst 1, 1) := by decide +kernel
theorem dX12_lot_126 : decode cX12_lot 126 = .ok (.isub, 1) := by decide +kernel
theorem dX12_lot_127 : decode cX12_lot 127 = .ok (.iaload, 1) := by decide +kernel
theorem dX12_lot_128 : decode cX12_lot 128 = .ok (.iastore, 1) := by decide +kernel
theorem dX12_lot_129 : decode cX12_lot 129 = .ok (.iinc 4 (-1), 3) := by decide +kernel
theorem dX12_lot_132 : decode cX12_lot 132 = .ok (.goto (-78), 3) := by decide +kernel
theorem dX12_lot_135 : decode cX12_lot 135 = .ok (.aload_n 0, 1) := by decide +kernel
theorem dX12_lot_136 : decode cX12_lot 136 = .ok (.getfield 93, 3) := by decide +kernel
theorem dX12_lot_139 : decode cX12_lot 139 = .ok (.bipush 20, 2) := by decide +kernel
theorem dX12_lot_141 : decode cX12_lot 141 = .ok (.iload_n 1, 1) := by decide +kernel
theorem dX12_lot_142 : decode cX12_lot 142 = .ok (.imul, 1) := by decide +kernel
theorem dX12_lot_143 : decode cX12_lot 143 = .ok (.iload 4, 2) := by decide +kernel
theorem dX12_lot_145 : decode cX12_lot 145 = .ok (.iadd, 1) := by decide +kernel
theorem dX12_lot_146 : decode cX12_lot 146 = .ok (.iload_n 3, 1) := by decide +kernel
theorem dX12_lot_147 : decode cX12_lot 147 = .ok (.iastore, 1) := by decide +kernel
theorem dX12_lot_148 : decode cX12_lot 148 = .ok (.aload_n 0, 1) := by decide +kernel
theorem dX12_lot_149 : decode cX12_lot 149 = .ok (.getfield 90, 3) := by decide +kernel
theorem dX12_lot_152 : decode cX12_lot 152 = .ok (.bipush 20, 2) := by decide +kernel
theorem dX12_lot_154 : decode cX12_lot 154 = .ok (.iload_n 1, 1) := by decide +kernel
theorem dX12_lot_155 : decode cX12_lot 155 = .ok (.imul, 1) := by decide +kernel
theorem dX12_lot_156 : decode cX12_lot 156 = .ok (.iload 4, 2) := by decide +kernel
theorem dX12_lot_158 : decode cX12_lot 158 = .ok (.iadd, 1) := by decide +kernel
theorem dX12_lot_159 : decode cX12_lot 159 = .ok (.iload_n 2, 1) := by decide +kernel
theorem dX12_lot_160 : decode cX12_lot 160 = .ok (.iastore, 1) := by decide +kernel
theorem dX12_lot_161 : decode cX12_lot 161 = .ok (.aload_n 0, 1) := by decide +kernel
theorem dX12_lot_162 : decode cX12_lot 162 = .ok (.getfield 87, 3) := by decide +kernel
theorem dX12_lot_165 : decode cX12_lot 165 = .ok (.iload_n 1, 1) := by decide +kernel
theorem dX12_lot_166 : decode cX12_lot 166 = .ok (.dup2, 1) := by decide +kernel
theorem dX12_lot_167 : decode cX12_lot 167 = .ok (.iaload, 1) := by decide +kernel
theorem dX12_lot_168 : decode cX12_lot 168 = .ok (.iconst 1, 1) := by decide +kernel
theorem dX12_lot_169 : decode cX12_lot 169 = .ok (.iadd, 1) := by decide +kernel
theorem dX12_lot_170 : decode cX12_lot 170 = .ok (.iastore, 1) := by decide +kernel
theorem dX12_lot_171 : decode cX12_lot 171 = .ok (.aload_n 0, 1) := by decide +kernel
theorem dX12_lot_172 : decode cX12_lot 172 = .ok (.getfield 87, 3) := by decide +kernel
theorem dX12_lot_175 : decode cX12_lot 175 = .ok (.iload_n 1, 1) := by decide +kernel
theorem dX12_lot_176 : decode cX12_lot 176 = .ok (.iaload, 1) := by decide +kernel
theorem dX12_lot_177 : decode cX12_lot 177 = .ok (.ireturn, 1) := by decide +kernel
theorem dX12_firstGoes_0 : decode cX12_firstGoes 0 = .ok (.iconst 1, 1) := by decide +kernel
theorem dX12_firstGoes_1 : decode cX12_firstGoes 1 = .ok (.istore_n 2, 1) := by decide +kernel
theorem dX12_firstGoes_2 : decode cX12_firstGoes 2 = .ok (.iload_n 2, 1) := by decide +kernel
theorem dX12_firstGoes_3 : decode cX12_firstGoes 3 = .ok (.aload_n 0, 1) := by decide +kernel
theorem dX12_firstGoes_4 : decode cX12_firstGoes 4 = .ok (.getfield 87, 3) := by decide +kernel
theorem dX12_firstGoes_7 : decode cX12_firstGoes 7 = .ok (.iload_n 1, 1) := by decide +kernel
theorem dX12_firstGoes_8 : decode cX12_firstGoes 8 = .ok (.iaload, 1) := by decide +kernel
theorem dX12_firstGoes_9 : decode cX12_firstGoes 9 = .ok (.if_icmp .ge 57, 3) := by decide +kernel
theorem dX12_firstGoes_12 : decode cX12_firstGoes 12 = .ok (.aload_n 0, 1) := by decide +kernel
theorem dX12_firstGoes_13 : decode cX12_firstGoes 13 = .ok (.getfield 93, 3) := by decide +kernel
theorem dX12_firstGoes_16 : decode cX12_firstGoes 16 = .ok (.bipush 20, 2) := by decide +kernel
theorem dX12_firstGoes_18 : decode cX12_firstGoes 18 = .ok (.iload_n 1, 1) := by decide +kernel
theorem dX12_firstGoes_19 : decode cX12_firstGoes 19 = .ok (.imul, 1) := by decide +kernel
theorem dX12_firstGoes_20 : decode cX12_firstGoes 20 = .ok (.iload_n 2, 1) := by decide +kernel
theorem dX12_firstGoes_21 : decode cX12_firstGoes 21 = .ok (.iadd, 1) := by decide +kernel
theorem dX12_firstGoes_22 : decode cX12_firstGoes 22 = .ok (.iconst 1, 1) := by decide +kernel
theorem dX12_firstGoes_23 : decode cX12_firstGoes 23 = .ok (.isub, 1) := by decide +kernel
theorem dX12_firstGoes_24 : decode cX12_firstGoes 24 = .ok (.aload_n 0, 1) := by decide +kernel
theorem dX12_firstGoes_25 : decode cX12_firstGoes 25 = .ok (.getfield 93, 3) := by decide +kernel
theorem dX12_firstGoes_28 : decode cX12_firstGoes 28 = .ok (.bipush 20, 2) := by decide +kernel
theorem dX12_firstGoes_30 : decode cX12_firstGoes 30 = .ok (.iload_n 1, 1) := by decide +kernel
theorem dX12_firstGoes_31 : decode cX12_firstGoes 31 = .ok (.imul, 1) := by decide +kernel
theorem dX12_firstGoes_32 : decode cX12_firstGoes 32 = .ok (.iload_n 2, 1) := by decide +kernel
theorem dX12_firstGoes_33 : decode cX12_firstGoes 33 = .ok (.iadd, 1) := by decide +kernel
theorem dX12_firstGoes_34 : decode cX12_firstGoes 34 = .ok (.iaload, 1) := by decide +kernel
theorem dX12_firstGoes_35 : decode cX12_firstGoes 35 = .ok (.iastore, 1) := by decide +kernel
theorem dX12_firstGoes_36 : decode cX12_firstGoes 36 = .ok (.aload_n 0, 1) := by decide +kernel
theorem dX12_firstGoes_37 : decode cX12_firstGoes 37 = .ok (.getfield 90, 3) := by decide +kernel
theorem dX12_firstGoes_40 : decode cX12_firstGoes 40 = .ok (.bipush 20, 2) := by decide +kernel
theorem dX12_firstGoes_42 : decode cX12_firstGoes 42 = .ok (.iload_n 1, 1) := by decide +kernel
theorem dX12_firstGoes_43 : decode cX12_firstGoes 43 = .ok (.imul, 1) := by decide +kernel
theorem dX12_firstGoes_44 : decode cX12_firstGoes 44 = .ok (.iload_n 2, 1) := by decide +kernel
theorem dX12_firstGoes_45 : decode cX12_firstGoes 45 = .ok (.iadd, 1) := by decide +kernel
theorem dX12_firstGoes_46 : decode cX12_firstGoes 46 = .ok (.iconst 1, 1) := by decide +kernel
theorem dX12_firstGoes_47 : decode cX12_firstGoes 47 = .ok (.isub, 1) := by decide +kernel
theorem dX12_firstGoes_48 : decode cX12_firstGoes 48 = .ok (.aload_n 0, 1) := by decide +kernel
theorem dX12_firstGoes_49 : decode cX12_firstGoes 49 = .ok (.getfield 90, 3) := by decide +kernel
theorem dX12_firstGoes_52 : decode cX12_firstGoes 52 = .ok (.bipush 20, 2) := by decide +kernel
theorem dX12_firstGoes_54 : decode cX12_firstGoes 54 = .ok (.iload_n 1, 1) := by decide +kernel
theorem dX12_firstGoes_55 : decode cX12_firstGoes 55 = .ok (.imul, 1) := by decide +kernel
theorem dX12_firstGoes_56 : decode cX12_firstGoes 56 = .ok (.iload_n 2, 1) := by decide +kernel
theorem dX12_firstGoes_57 : decode cX12_firstGoes 57 = .ok (.iadd, 1) := by decide +kernel
theorem dX12_firstGoes_58 : decode cX12_firstGoes 58 = .ok (.iaload, 1) := by decide +kernel
theorem dX12_firstGoes_59 : decode cX12_firstGoes 59 = .ok (.iastore, 1) := by decide +kernel
theorem dX12_firstGoes_60 : decode cX12_firstGoes 60 = .ok (.iinc 2 1, 3) := by decide +kernel
theorem dX12_firstGoes_63 : decode cX12_firstGoes 63 = .ok (.goto (-61), 3) := by decide +kernel
theorem dX12_firstGoes_66 : decode cX12_firstGoes 66 = .ok (.aload_n 0, 1) := by decide +kernel
theorem dX12_firstGoes_67 : decode cX12_firstGoes 67 = .ok (.getfield 87, 3) := by decide +kernel
theorem dX12_firstGoes_70 : decode cX12_firstGoes 70 = .ok (.iload_n 1, 1) := by decide +kernel
theorem dX12_firstGoes_71 : decode cX12_firstGoes 71 = .ok (.dup2, 1) := by decide +kernel
theorem dX12_firstGoes_72 : decode cX12_firstGoes 72 = .ok (.iaload, 1) := by decide +kernel
theorem dX12_firstGoes_73 : decode cX12_firstGoes 73 = .ok (.iconst 1, 1) := by decide +kernel
theorem dX12_firstGoes_74 : decode cX12_firstGoes 74 = .ok (.isub, 1) := by decide +kernel
theorem dX12_firstGoes_75 : decode cX12_firstGoes 75 = .ok (.iastore, 1) := by decide +kernel
theorem dX12_firstGoes_76 : decode cX12_firstGoes 76 = .ok (.return_, 1) := by decide +kernel
theorem dX12_takes_0 : decode cX12_takes 0 = .ok (.aload_n 0, 1) := by decide +kernel
theorem dX12_takes_1 : decode cX12_takes 1 = .ok (.iload_n 1, 1) := by decide +kernel
theorem dX12_takes_2 : decode cX12_takes 2 = .ok (.invokevirtual 142, 3) := by decide +kernel
theorem dX12_takes_5 : decode cX12_takes 5 = .ok (.ifCond .eq 20, 3) := by decide +kernel
theorem dX12_takes_8 : decode cX12_takes 8 = .ok (.iload_n 2, 1) := by decide +kernel
theorem dX12_takes_9 : decode cX12_takes 9 = .ok (.invokestatic 324, 3) := by decide +kernel
theorem dX12_takes_12 : decode cX12_takes 12 = .ok (.ifCond .eq 13, 3) := by decide +kernel
theorem dX12_takes_15 : decode cX12_takes 15 = .ok (.iload_n 3, 1) := by decide +kernel
theorem dX12_takes_16 : decode cX12_takes 16 = .ok (.ifCond .lt 9, 3) := by decide +kernel
theorem dX12_takes_19 : decode cX12_takes 19 = .ok (.iload_n 3, 1) := by decide +kernel
theorem dX12_takes_20 : decode cX12_takes 20 = .ok (.bipush 50, 2) := by decide +kernel
theorem dX12_takes_22 : decode cX12_takes 22 = .ok (.if_icmp .le 5, 3) := by decide +kernel
theorem dX12_takes_25 : decode cX12_takes 25 = .ok (.iconst 0, 1) := by decide +kernel
theorem dX12_takes_26 : decode cX12_takes 26 = .ok (.ireturn, 1) := by decide +kernel
theorem dX12_takes_27 : decode cX12_takes 27 = .ok (.aload_n 0, 1) := by decide +kernel
theorem dX12_takes_28 : decode cX12_takes 28 = .ok (.getfield 25, 3) := by decide +kernel
theorem dX12_takes_31 : decode cX12_takes 31 = .ok (.iconst 4, 1) := by decide +kernel
theorem dX12_takes_32 : decode cX12_takes 32 = .ok (.iload_n 1, 1) := by decide +kernel
theorem dX12_takes_33 : decode cX12_takes 33 = .ok (.imul, 1) := by decide +kernel
theorem dX12_takes_34 : decode cX12_takes 34 = .ok (.iload_n 2, 1) := by decide +kernel
theorem dX12_takes_35 : decode cX12_takes 35 = .ok (.iadd, 1) := by decide +kernel
theorem dX12_takes_36 : decode cX12_takes 36 = .ok (.iload_n 3, 1) := by decide +kernel
theorem dX12_takes_37 : decode cX12_takes 37 = .ok (.iastore, 1) := by decide +kernel
theorem dX12_takes_38 : decode cX12_takes 38 = .ok (.iconst 1, 1) := by decide +kernel
theorem dX12_takes_39 : decode cX12_takes 39 = .ok (.ireturn, 1) := by decide +kernel
theorem dX12_price_0 : decode cX12_price 0 = .ok (.iload_n 1, 1) := by decide +kernel
theorem dX12_price_1 : decode cX12_price 1 = .ok (.ifCond .lt 20, 3) := by decide +kernel
theorem dX12_price_4 : decode cX12_price 4 = .ok (.iload_n 1, 1) := by decide +kernel
theorem dX12_price_5 : decode cX12_price 5 = .ok (.bipush 7, 2) := by decide +kernel
theorem dX12_price_7 : decode cX12_price 7 = .ok (.if_icmp .gt 14, 3) := by decide +kernel
theorem dX12_price_10 : decode cX12_price 10 = .ok (.iload_n 2, 1) := by decide +kernel
theorem dX12_price_11 : decode cX12_price 11 = .ok (.ifCond .lt 10, 3) := by decide +kernel
theorem dX12_price_14 : decode cX12_price 14 = .ok (.iload_n 2, 1) := by decide +kernel
theorem dX12_price_15 : decode cX12_price 15 = .ok (.sipush 1000, 3) := by decide +kernel
theorem dX12_price_18 : decode cX12_price 18 = .ok (.if_icmp .le 5, 3) := by decide +kernel
theorem dX12_price_21 : decode cX12_price 21 = .ok (.iconst 0, 1) := by decide +kernel
theorem dX12_price_22 : decode cX12_price 22 = .ok (.ireturn, 1) := by decide +kernel
theorem dX12_price_23 : decode cX12_price 23 = .ok (.aload_n 0, 1) := by decide +kernel
theorem dX12_price_24 : decode cX12_price 24 = .ok (.getfield 99, 3) := by decide +kernel
theorem dX12_price_27 : decode cX12_price 27 = .ok (.iload_n 1, 1) := by decide +kernel
theorem dX12_price_28 : decode cX12_price 28 = .ok (.iload_n 2, 1) := by decide +kernel
theorem dX12_price_29 : decode cX12_price 29 = .ok (.iastore, 1) := by decide +kernel
theorem dX12_price_30 : decode cX12_price 30 = .ok (.iconst 1, 1) := by decide +kernel
theorem dX12_price_31 : decode cX12_price 31 = .ok (.ireturn, 1) := by decide +kernel
theorem dX12_falls_0 : decode cX12_falls 0 = .ok (.iload_n 1, 1) := by decide +kernel
theorem dX12_falls_1 : decode cX12_falls 1 = .ok (.ifCond .lt 19, 3) := by decide +kernel
theorem dX12_falls_4 : decode cX12_falls 4 = .ok (.iload_n 1, 1) := by decide +kernel
theorem dX12_falls_5 : decode cX12_falls 5 = .ok (.iconst 2, 1) := by decide +kernel
theorem dX12_falls_6 : decode cX12_falls 6 = .ok (.if_icmp .gt 14, 3) := by decide +kernel
theorem dX12_falls_9 : decode cX12_falls 9 = .ok (.iload_n 2, 1) := by decide +kernel
theorem dX12_falls_10 : decode cX12_falls 10 = .ok (.ifCond .lt 10, 3) := by decide +kernel
theorem dX12_falls_13 : decode cX12_falls 13 = .ok (.iload_n 2, 1) := by decide +kernel
theorem dX12_falls_14 : decode cX12_falls 14 = .ok (.sipush 400, 3) := by decide +kernel
theorem dX12_falls_17 : decode cX12_falls 17 = .ok (.if_icmp .le 5, 3) := by decide +kernel
theorem dX12_falls_20 : decode cX12_falls 20 = .ok (.iconst 0, 1) := by decide +kernel
theorem dX12_falls_21 : decode cX12_falls 21 = .ok (.ireturn, 1) := by decide +kernel
theorem dX12_falls_22 : decode cX12_falls 22 = .ok (.aload_n 0, 1) := by decide +kernel
theorem dX12_falls_23 : decode cX12_falls 23 = .ok (.getfield 102, 3) := by decide +kernel
theorem dX12_falls_26 : decode cX12_falls 26 = .ok (.iload_n 1, 1) := by decide +kernel
theorem dX12_falls_27 : decode cX12_falls 27 = .ok (.iload_n 2, 1) := by decide +kernel
theorem dX12_falls_28 : decode cX12_falls 28 = .ok (.iastore, 1) := by decide +kernel
theorem dX12_falls_29 : decode cX12_falls 29 = .ok (.iconst 1, 1) := by decide +kernel
theorem dX12_falls_30 : decode cX12_falls 30 = .ok (.ireturn, 1) := by decide +kernel
theorem dX12_serve_0 : decode cX12_serve 0 = .ok (.iconst 0, 1) := by decide +kernel
theorem dX12_serve_1 : decode cX12_serve 1 = .ok (.istore_n 3, 1) := by decide +kernel
theorem dX12_serve_2 : decode cX12_serve 2 = .ok (.iload_n 3, 1) := by decide +kernel
theorem dX12_serve_3 : decode cX12_serve 3 = .ok (.iload_n 2, 1) := by decide +kernel
theorem dX12_serve_4 : decode cX12_serve 4 = .ok (.if_icmp .ge 81, 3) := by decide +kernel
theorem dX12_serve_7 : decode cX12_serve 7 = .ok (.aload_n 0, 1) := by decide +kernel
theorem dX12_serve_8 : decode cX12_serve 8 = .ok (.getfield 87, 3) := by decide +kernel
theorem dX12_serve_11 : decode cX12_serve 11 = .ok (.iload_n 1, 1) := by decide +kernel
theorem dX12_serve_12 : decode cX12_serve 12 = .ok (.iaload, 1) := by decide +kernel
theorem dX12_serve_13 : decode cX12_serve 13 = .ok (.ifCond .le 72, 3) := by decide +kernel
theorem dX12_serve_16 : decode cX12_serve 16 = .ok (.bipush 20, 2) := by decide +kernel
theorem dX12_serve_18 : decode cX12_serve 18 = .ok (.iload_n 1, 1) := by decide +kernel
theorem dX12_serve_19 : decode cX12_serve 19 = .ok (.imul, 1) := by decide +kernel
theorem dX12_serve_20 : decode cX12_serve 20 = .ok (.istore 4, 2) := by decide +kernel
theorem dX12_serve_22 : decode cX12_serve 22 = .ok (.aload_n 0, 1) := by decide +kernel
theorem dX12_serve_23 : decode cX12_serve 23 = .ok (.getfield 90, 3) := by decide +kernel
theorem dX12_serve_26 : decode cX12_serve 26 = .ok (.iload 4, 2) := by decide +kernel
theorem dX12_serve_28 : decode cX12_serve 28 = .ok (.iaload, 1) := by decide +kernel
theorem dX12_serve_29 : decode cX12_serve 29 = .ok (.iload_n 2, 1) := by decide +kernel
theorem dX12_serve_30 : decode cX12_serve 30 = .ok (.iload_n 3, 1) := by decide +kernel
theorem dX12_serve_31 : decode cX12_serve 31 = .ok (.isub, 1) := by decide +kernel
theorem dX12_serve_32 : decode cX12_serve 32 = .ok (.if_icmp .ge 13, 3) := by decide +kernel
theorem dX12_serve_35 : decode cX12_serve 35 = .ok (.aload_n 0, 1) := by decide +kernel
theorem dX12_serve_36 : decode cX12_serve 36 = .ok (.getfield 90, 3) := by decide +kernel
theorem dX12_serve_39 : decode cX12_serve 39 = .ok (.iload 4, 2) := by decide +kernel
theorem dX12_serve_41 : decode cX12_serve 41 = .ok (.iaload, 1) := by decide +kernel
theorem dX12_serve_42 : decode cX12_serve 42 = .ok (.goto 6, 3) := by decide +kernel
theorem dX12_serve_45 : decode cX12_serve 45 = .ok (.iload_n 2, 1) := by decide +kernel
theorem dX12_serve_46 : decode cX12_serve 46 = .ok (.iload_n 3, 1) := by decide +kernel
theorem dX12_serve_47 : decode cX12_serve 47 = .ok (.isub, 1) := by decide +kernel
theorem dX12_serve_48 : decode cX12_serve 48 = .ok (.istore 5, 2) := by decide +kernel
theorem dX12_serve_50 : decode cX12_serve 50 = .ok (.iload_n 3, 1) := by decide +kernel
theorem dX12_serve_51 : decode cX12_serve 51 = .ok (.iload 5, 2) := by decide +kernel
theorem dX12_serve_53 : decode cX12_serve 53 = .ok (.iadd, 1) := by decide +kernel
theorem dX12_serve_54 : decode cX12_serve 54 = .ok (.istore_n 3, 1) := by decide +kernel
theorem dX12_serve_55 : decode cX12_serve 55 = .ok (.aload_n 0, 1) := by decide +kernel
theorem dX12_serve_56 : decode cX12_serve 56 = .ok (.getfield 90, 3) := by decide +kernel
theorem dX12_serve_59 : decode cX12_serve 59 = .ok (.iload 4, 2) := by decide +kernel
theorem dX12_serve_61 : decode cX12_serve 61 = .ok (.dup2, 1) := by decide +kernel
theorem dX12_serve_62 : decode cX12_serve 62 = .ok (.iaload, 1) := by decide +kernel
theorem dX12_serve_63 : decode cX12_serve 63 = .ok (.iload 5, 2) := by decide +kernel
theorem dX12_serve_65 : decode cX12_serve 65 = .ok (.isub, 1) := by decide +kernel
theorem dX12_serve_66 : decode cX12_serve 66 = .ok (.iastore, 1) := by decide +kernel
theorem dX12_serve_67 : decode cX12_serve 67 = .ok (.aload_n 0, 1) := by decide +kernel
theorem dX12_serve_68 : decode cX12_serve 68 = .ok (.getfield 90, 3) := by decide +kernel
theorem dX12_serve_71 : decode cX12_serve 71 = .ok (.iload 4, 2) := by decide +kernel
theorem dX12_serve_73 : decode cX12_serve 73 = .ok (.iaload, 1) := by decide +kernel
theorem dX12_serve_74 : decode cX12_serve 74 = .ok (.ifCond .ne 8, 3) := by decide +kernel
theorem dX12_serve_77 : decode cX12_serve 77 = .ok (.aload_n 0, 1) := by decide +kernel
theorem dX12_serve_78 : decode cX12_serve 78 = .ok (.iload_n 1, 1) := by decide +kernel
theorem dX12_serve_79 : decode cX12_serve 79 = .ok (.invokevirtual 327, 3) := by decide +kernel
theorem dX12_serve_82 : decode cX12_serve 82 = .ok (.goto (-80), 3) := by decide +kernel
theorem dX12_serve_85 : decode cX12_serve 85 = .ok (.iload_n 3, 1) := by decide +kernel
theorem dX12_serve_86 : decode cX12_serve 86 = .ok (.ireturn, 1) := by decide +kernel
theorem dX12_night_0 : decode cX12_night 0 = .ok (.aload_n 0, 1) := by decide +kernel
theorem dX12_night_1 : decode cX12_night 1 = .ok (.getfield 330, 3) := by decide +kernel
theorem dX12_night_4 : decode cX12_night 4 = .ok (.aload_n 0, 1) := by decide +kernel
theorem dX12_night_5 : decode cX12_night 5 = .ok (.getfield 132, 3) := by decide +kernel
theorem dX12_night_8 : decode cX12_night 8 = .ok (.iadd, 1) := by decide +kernel
theorem dX12_night_9 : decode cX12_night 9 = .ok (.sipush 2000, 3) := by decide +kernel
theorem dX12_night_12 : decode cX12_night 12 = .ok (.if_icmp .le 5, 3) := by decide +kernel
theorem dX12_night_15 : decode cX12_night 15 = .ok (.iconst (-1), 1) := by decide +kernel
theorem dX12_night_16 : decode cX12_night 16 = .ok (.ireturn, 1) := by decide +kernel
theorem dX12_night_17 : decode cX12_night 17 = .ok (.iconst 0, 1) := by decide +kernel
theorem dX12_night_18 : decode cX12_night 18 = .ok (.istore_n 1, 1) := by decide +kernel
theorem dX12_night_19 : decode cX12_night 19 = .ok (.iload_n 1, 1) := by decide +kernel
theorem dX12_night_20 : decode cX12_night 20 = .ok (.iconst 4, 1) := by decide +kernel
theorem dX12_night_21 : decode cX12_night 21 = .ok (.if_icmp .ge 60, 3) := by decide +kernel
theorem dX12_night_24 : decode cX12_night 24 = .ok (.aload_n 0, 1) := by decide +kernel
theorem dX12_night_25 : decode cX12_night 25 = .ok (.getfield 87, 3) := by decide +kernel
theorem dX12_night_28 : decode cX12_night 28 = .ok (.iload_n 1, 1) := by decide +kernel
theorem dX12_night_29 : decode cX12_night 29 = .ok (.iaload, 1) := by decide +kernel
theorem dX12_night_30 : decode cX12_night 30 = .ok (.ifCond .le 45, 3) := by decide +kernel
theorem dX12_night_33 : decode cX12_night 33 = .ok (.aload_n 0, 1) := by decide +kernel
theorem dX12_night_34 : decode cX12_night 34 = .ok (.getfield 93, 3) := by decide +kernel
theorem dX12_night_37 : decode cX12_night 37 = .ok (.bipush 20, 2) := by decide +kernel
theorem dX12_night_39 : decode cX12_night 39 = .ok (.iload_n 1, 1) := by decide +kernel
theorem dX12_night_40 : decode cX12_night 40 = .ok (.imul, 1) := by decide +kernel
theorem dX12_night_41 : decode cX12_night 41 = .ok (.iaload, 1) := by decide +kernel
theorem dX12_night_42 : decode cX12_night 42 = .ok (.aload_n 0, 1) := by decide +kernel
theorem dX12_night_43 : decode cX12_night 43 = .ok (.getfield 135, 3) := by decide +kernel
theorem dX12_night_46 : decode cX12_night 46 = .ok (.if_icmp .ge 29, 3) := by decide +kernel
theorem dX12_night_49 : decode cX12_night 49 = .ok (.aload_n 0, 1) := by decide +kernel
theorem dX12_night_50 : decode cX12_night 50 = .ok (.getfield 96, 3) := by decide +kernel
theorem dX12_night_53 : decode cX12_night 53 = .ok (.iload_n 1, 1) := by decide +kernel
theorem dX12_night_54 : decode cX12_night 54 = .ok (.dup2, 1) := by decide +kernel
theorem dX12_night_55 : decode cX12_night 55 = .ok (.iaload, 1) := by decide +kernel
theorem dX12_night_56 : decode cX12_night 56 = .ok (.aload_n 0, 1) := by decide +kernel
theorem dX12_night_57 : decode cX12_night 57 = .ok (.getfield 90, 3) := by decide +kernel
theorem dX12_night_60 : decode cX12_night 60 = .ok (.bipush 20, 2) := by decide +kernel
theorem dX12_night_62 : decode cX12_night 62 = .ok (.iload_n 1, 1) := by decide +kernel
theorem dX12_night_63 : decode cX12_night 63 = .ok (.imul, 1) := by decide +kernel
theorem dX12_night_64 : decode cX12_night 64 = .ok (.iaload, 1) := by decide +kernel
theorem dX12_night_65 : decode cX12_night 65 = .ok (.iadd, 1) := by decide +kernel
theorem dX12_night_66 : decode cX12_night 66 = .ok (.iastore, 1) := by decide +kernel
theorem dX12_night_67 : decode cX12_night 67 = .ok (.aload_n 0, 1) := by decide +kernel
theorem dX12_night_68 : decode cX12_night 68 = .ok (.iload_n 1, 1) := by decide +kernel
theorem dX12_night_69 : decode cX12_night 69 = .ok (.invokevirtual 327, 3) := by decide +kernel
theorem dX12_night_72 : decode cX12_night 72 = .ok (.goto (-48), 3) := by decide +kernel
theorem dX12_night_75 : decode cX12_night 75 = .ok (.iinc 1 1, 3) := by decide +kernel
theorem dX12_night_78 : decode cX12_night 78 = .ok (.goto (-59), 3) := by decide +kernel
theorem dX12_night_81 : decode cX12_night 81 = .ok (.iconst 0, 1) := by decide +kernel
theorem dX12_night_82 : decode cX12_night 82 = .ok (.istore_n 1, 1) := by decide +kernel
theorem dX12_night_83 : decode cX12_night 83 = .ok (.iconst 0, 1) := by decide +kernel
theorem dX12_night_84 : decode cX12_night 84 = .ok (.istore_n 2, 1) := by decide +kernel
theorem dX12_night_85 : decode cX12_night 85 = .ok (.iload_n 2, 1) := by decide +kernel
theorem dX12_night_86 : decode cX12_night 86 = .ok (.aload_n 0, 1) := by decide +kernel
theorem dX12_night_87 : decode cX12_night 87 = .ok (.getfield 132, 3) := by decide +kernel
theorem dX12_night_90 : decode cX12_night 90 = .ok (.if_icmp .ge 134, 3) := by decide +kernel
theorem dX12_night_93 : decode cX12_night 93 = .ok (.aload_n 0, 1) := by decide +kernel
theorem dX12_night_94 : decode cX12_night 94 = .ok (.getfield 99, 3) := by decide +kernel
theorem dX12_night_97 : decode cX12_night 97 = .ok (.iconst 0, 1) := by decide +kernel
theorem dX12_night_98 : decode cX12_night 98 = .ok (.iaload, 1) := by decide +kernel
theorem dX12_night_99 : decode cX12_night 99 = .ok (.istore_n 3, 1) := by decide +kernel
theorem dX12_night_100 : decode cX12_night 100 = .ok (.iconst 0, 1) := by decide +kernel
theorem dX12_night_101 : decode cX12_night 101 = .ok (.istore 4, 2) := by decide +kernel
theorem dX12_night_103 : decode cX12_night 103 = .ok (.iload 4, 2) := by decide +kernel
theorem dX12_night_105 : decode cX12_night 105 = .ok (.iconst 4, 1) := by decide +kernel
theorem dX12_night_106 : decode cX12_night 106 = .ok (.if_icmp .ge 69, 3) := by decide +kernel
theorem dX12_night_109 : decode cX12_night 109 = .ok (.aload_n 0, 1) := by decide +kernel
theorem dX12_night_110 : decode cX12_night 110 = .ok (.getfield 25, 3) := by decide +kernel
theorem dX12_night_113 : decode cX12_night 113 = .ok (.iconst 4, 1) := by decide +kernel
theorem dX12_night_114 : decode cX12_night 114 = .ok (.iload_n 2, 1) := by decide +kernel
theorem dX12_night_115 : decode cX12_night 115 = .ok (.imul, 1) := by decide +kernel
theorem dX12_night_116 : decode cX12_night 116 = .ok (.iload 4, 2) := by decide +kernel
theorem dX12_night_118 : decode cX12_night 118 = .ok (.iadd, 1) := by decide +kernel
theorem dX12_night_119 : decode cX12_night 119 = .ok (.iaload, 1) := by decide +kernel
theorem dX12_night_120 : decode cX12_night 120 = .ok (.istore 5, 2) := by decide +kernel
theorem dX12_night_122 : decode cX12_night 122 = .ok (.aload_n 0, 1) := by decide +kernel
theorem dX12_night_123 : decode cX12_night 123 = .ok (.iload 4, 2) := by decide +kernel
theorem dX12_night_125 : decode cX12_night 125 = .ok (.iload 5, 2) := by decide +kernel
theorem dX12_night_127 : decode cX12_night 127 = .ok (.invokevirtual 333, 3) := by decide +kernel
theorem dX12_night_130 : decode cX12_night 130 = .ok (.istore 6, 2) := by decide +kernel
theorem dX12_night_132 : decode cX12_night 132 = .ok (.iload_n 3, 1) := by decide +kernel
theorem dX12_night_133 : decode cX12_night 133 = .ok (.iload 6, 2) := by decide +kernel
theorem dX12_night_135 : decode cX12_night 135 = .ok (.aload_n 0, 1) := by decide +kernel
theorem dX12_night_136 : decode cX12_night 136 = .ok (.getfield 99, 3) := by decide +kernel
theorem dX12_night_139 : decode cX12_night 139 = .ok (.iconst 1, 1) := by decide +kernel
theorem dX12_night_140 : decode cX12_night 140 = .ok (.iload 4, 2) := by decide +kernel
theorem dX12_night_142 : decode cX12_night 142 = .ok (.iadd, 1) := by decide +kernel
theorem dX12_night_143 : decode cX12_night 143 = .ok (.iaload, 1) := by decide +kernel
theorem dX12_night_144 : decode cX12_night 144 = .ok (.imul, 1) := by decide +kernel
theorem dX12_night_145 : decode cX12_night 145 = .ok (.iadd, 1) := by decide +kernel
theorem dX12_night_146 : decode cX12_night 146 = .ok (.istore_n 3, 1) := by decide +kernel
theorem dX12_night_147 : decode cX12_night 147 = .ok (.aload_n 0, 1) := by decide +kernel
theorem dX12_night_148 : decode cX12_night 148 = .ok (.getfield 22, 3) := by decide +kernel
theorem dX12_night_151 : decode cX12_night 151 = .ok (.iload_n 2, 1) := by decide +kernel
theorem dX12_night_152 : decode cX12_night 152 = .ok (.dup2, 1) := by decide +kernel
theorem dX12_night_153 : decode cX12_night 153 = .ok (.iaload, 1) := by decide +kernel
theorem dX12_night_154 : decode cX12_night 154 = .ok (.iload 5, 2) := by decide +kernel
theorem dX12_night_156 : decode cX12_night 156 = .ok (.iload 6, 2) := by decide +kernel
theorem dX12_night_158 : decode cX12_night 158 = .ok (.isub, 1) := by decide +kernel
theorem dX12_night_159 : decode cX12_night 159 = .ok (.iadd, 1) := by decide +kernel
theorem dX12_night_160 : decode cX12_night 160 = .ok (.iastore, 1) := by decide +kernel
theorem dX12_night_161 : decode cX12_night 161 = .ok (.iload_n 1, 1) := by decide +kernel
theorem dX12_night_162 : decode cX12_night 162 = .ok (.iload 5, 2) := by decide +kernel
theorem dX12_night_164 : decode cX12_night 164 = .ok (.iload 6, 2) := by decide +kernel
theorem dX12_night_166 : decode cX12_night 166 = .ok (.isub, 1) := by decide +kernel
theorem dX12_night_167 : decode cX12_night 167 = .ok (.iadd, 1) := by decide +kernel
theorem dX12_night_168 : decode cX12_night 168 = .ok (.istore_n 1, 1) := by decide +kernel
theorem dX12_night_169 : decode cX12_night 169 = .ok (.iinc 4 1, 3) := by decide +kernel
theorem dX12_night_172 : decode cX12_night 172 = .ok (.goto (-69), 3) := by decide +kernel
theorem dX12_night_175 : decode cX12_night 175 = .ok (.aload_n 0, 1) := by decide +kernel
theorem dX12_night_176 : decode cX12_night 176 = .ok (.getfield 105, 3) := by decide +kernel
theorem dX12_night_179 : decode cX12_night 179 = .ok (.aload_n 0, 1) := by decide +kernel
theorem dX12_night_180 : decode cX12_night 180 = .ok (.getfield 330, 3) := by decide +kernel
theorem dX12_night_183 : decode cX12_night 183 = .ok (.iload_n 2, 1) := by decide +kernel
theorem dX12_night_184 : decode cX12_night 184 = .ok (.iastore, 1) := by decide +kernel
theorem dX12_night_185 : decode cX12_night 185 = .ok (.aload_n 0, 1) := by decide +kernel
theorem dX12_night_186 : decode cX12_night 186 = .ok (.getfield 108, 3) := by decide +kernel
theorem dX12_night_189 : decode cX12_night 189 = .ok (.aload_n 0, 1) := by decide +kernel
theorem dX12_night_190 : decode cX12_night 190 = .ok (.getfield 330, 3) := by decide +kernel
theorem dX12_night_193 : decode cX12_night 193 = .ok (.aload_n 0, 1) := by decide +kernel
theorem dX12_night_194 : decode cX12_night 194 = .ok (.getfield 135, 3) := by decide +kernel
theorem dX12_night_197 : decode cX12_night 197 = .ok (.iastore, 1) := by decide +kernel
theorem dX12_night_198 : decode cX12_night 198 = .ok (.aload_n 0, 1) := by decide +kernel
theorem dX12_night_199 : decode cX12_night 199 = .ok (.getfield 111, 3) := by decide +kernel
theorem dX12_night_202 : decode cX12_night 202 = .ok (.aload_n 0, 1) := by decide +kernel
theorem dX12_night_203 : decode cX12_night 203 = .ok (.getfield 330, 3) := by decide +kernel
theorem dX12_night_206 : decode cX12_night 206 = .ok (.iload_n 3, 1) := by decide +kernel
theorem dX12_night_207 : decode cX12_night 207 = .ok (.iastore, 1) := by decide +kernel
theorem dX12_night_208 : decode cX12_night 208 = .ok (.aload_n 0, 1) := by decide +kernel
theorem dX12_night_209 : decode cX12_night 209 = .ok (.dup, 1) := by decide +kernel
theorem dX12_night_210 : decode cX12_night 210 = .ok (.getfield 330, 3) := by decide +kernel
theorem dX12_night_213 : decode cX12_night 213 = .ok (.iconst 1, 1) := by decide +kernel
theorem dX12_night_214 : decode cX12_night 214 = .ok (.iadd, 1) := by decide +kernel
theorem dX12_night_215 : decode cX12_night 215 = .ok (.putfield 330, 3) := by decide +kernel
theorem dX12_night_218 : decode cX12_night 218 = .ok (.iinc 2 1, 3) := by decide +kernel
theorem dX12_night_221 : decode cX12_night 221 = .ok (.goto (-136), 3) := by decide +kernel
theorem dX12_night_224 : decode cX12_night 224 = .ok (.aload_n 0, 1) := by decide +kernel
theorem dX12_night_225 : decode cX12_night 225 = .ok (.dup, 1) := by decide +kernel
theorem dX12_night_226 : decode cX12_night 226 = .ok (.getfield 135, 3) := by decide +kernel
theorem dX12_night_229 : decode cX12_night 229 = .ok (.iconst 1, 1) := by decide +kernel
theorem dX12_night_230 : decode cX12_night 230 = .ok (.iadd, 1) := by decide +kernel
theorem dX12_night_231 : decode cX12_night 231 = .ok (.putfield 135, 3) := by decide +kernel
theorem dX12_night_234 : decode cX12_night 234 = .ok (.aload_n 0, 1) := by decide +kernel
theorem dX12_night_235 : decode cX12_night 235 = .ok (.iconst 0, 1) := by decide +kernel
theorem dX12_night_236 : decode cX12_night 236 = .ok (.putfield 138, 3) := by decide +kernel
theorem dX12_night_239 : decode cX12_night 239 = .ok (.iload_n 1, 1) := by decide +kernel
theorem dX12_night_240 : decode cX12_night 240 = .ok (.ireturn, 1) := by decide +kernel
theorem dX12_bin_0 : decode cX12_bin 0 = .ok (.iload_n 1, 1) := by decide +kernel
theorem dX12_bin_1 : decode cX12_bin 1 = .ok (.invokestatic 324, 3) := by decide +kernel
theorem dX12_bin_4 : decode cX12_bin 4 = .ok (.ifCond .ne 5, 3) := by decide +kernel
theorem dX12_bin_7 : decode cX12_bin 7 = .ok (.iconst (-1), 1) := by decide +kernel
theorem dX12_bin_8 : decode cX12_bin 8 = .ok (.ireturn, 1) := by decide +kernel
theorem dX12_bin_9 : decode cX12_bin 9 = .ok (.iload_n 2, 1) := by decide +kernel
theorem dX12_bin_10 : decode cX12_bin 10 = .ok (.tableswitch 106 0 3 #[30, 37, 76, 83], 30) := by decide +kernel
theorem dX12_bin_40 : decode cX12_bin 40 = .ok (.aload_n 0, 1) := by decide +kernel
theorem dX12_bin_41 : decode cX12_bin 41 = .ok (.getfield 87, 3) := by decide +kernel
theorem dX12_bin_44 : decode cX12_bin 44 = .ok (.iload_n 1, 1) := by decide +kernel
theorem dX12_bin_45 : decode cX12_bin 45 = .ok (.iaload, 1) := by decide +kernel
theorem dX12_bin_46 : decode cX12_bin 46 = .ok (.ireturn, 1) := by decide +kernel
theorem dX12_bin_47 : decode cX12_bin 47 = .ok (.iconst 0, 1) := by decide +kernel
theorem dX12_bin_48 : decode cX12_bin 48 = .ok (.istore_n 3, 1) := by decide +kernel
theorem dX12_bin_49 : decode cX12_bin 49 = .ok (.iconst 0, 1) := by decide +kernel
theorem dX12_bin_50 : decode cX12_bin 50 = .ok (.istore 4, 2) := by decide +kernel
theorem dX12_bin_52 : decode cX12_bin 52 = .ok (.iload 4, 2) := by decide +kernel
theorem dX12_bin_54 : decode cX12_bin 54 = .ok (.aload_n 0, 1) := by decide +kernel
theorem dX12_bin_55 : decode cX12_bin 55 = .ok (.getfield 87, 3) := by decide +kernel
theorem dX12_bin_58 : decode cX12_bin 58 = .ok (.iload_n 1, 1) := by decide +kernel
theorem dX12_bin_59 : decode cX12_bin 59 = .ok (.iaload, 1) := by decide +kernel
theorem dX12_bin_60 : decode cX12_bin 60 = .ok (.if_icmp .ge 24, 3) := by decide +kernel
theorem dX12_bin_63 : decode cX12_bin 63 = .ok (.iload_n 3, 1) := by decide +kernel
theorem dX12_bin_64 : decode cX12_bin 64 = .ok (.aload_n 0, 1) := by decide +kernel
theorem dX12_bin_65 : decode cX12_bin 65 = .ok (.getfield 90, 3) := by decide +kernel
theorem dX12_bin_68 : decode cX12_bin 68 = .ok (.bipush 20, 2) := by decide +kernel
theorem dX12_bin_70 : decode cX12_bin 70 = .ok (.iload_n 1, 1) := by decide +kernel
theorem dX12_bin_71 : decode cX12_bin 71 = .ok (.imul, 1) := by decide +kernel
theorem dX12_bin_72 : decode cX12_bin 72 = .ok (.iload 4, 2) := by decide +kernel
theorem dX12_bin_74 : decode cX12_bin 74 = .ok (.iadd, 1) := by decide +kernel
theorem dX12_bin_75 : decode cX12_bin 75 = .ok (.iaload, 1) := by decide +kernel
theorem dX12_bin_76 : decode cX12_bin 76 = .ok (.iadd, 1) := by decide +kernel
theorem dX12_bin_77 : decode cX12_bin 77 = .ok (.istore_n 3, 1) := by decide +kernel
theorem dX12_bin_78 : decode cX12_bin 78 = .ok (.iinc 4 1, 3) := by decide +kernel
theorem dX12_bin_81 : decode cX12_bin 81 = .ok (.goto (-29), 3) := by decide +kernel
theorem dX12_bin_84 : decode cX12_bin 84 = .ok (.iload_n 3, 1) := by decide +kernel
theorem dX12_bin_85 : decode cX12_bin 85 = .ok (.ireturn, 1) := by decide +kernel
theorem dX12_bin_86 : decode cX12_bin 86 = .ok (.aload_n 0, 1) := by decide +kernel
theorem dX12_bin_87 : decode cX12_bin 87 = .ok (.getfield 96, 3) := by decide +kernel
theorem dX12_bin_90 : decode cX12_bin 90 = .ok (.iload_n 1, 1) := by decide +kernel
theorem dX12_bin_91 : decode cX12_bin 91 = .ok (.iaload, 1) := by decide +kernel
theorem dX12_bin_92 : decode cX12_bin 92 = .ok (.ireturn, 1) := by decide +kernel
theorem dX12_bin_93 : decode cX12_bin 93 = .ok (.aload_n 0, 1) := by decide +kernel
theorem dX12_bin_94 : decode cX12_bin 94 = .ok (.getfield 87, 3) := by decide +kernel
theorem dX12_bin_97 : decode cX12_bin 97 = .ok (.iload_n 1, 1) := by decide +kernel
theorem dX12_bin_98 : decode cX12_bin 98 = .ok (.iaload, 1) := by decide +kernel
theorem dX12_bin_99 : decode cX12_bin 99 = .ok (.ifCond .le 15, 3) := by decide +kernel
theorem dX12_bin_102 : decode cX12_bin 102 = .ok (.aload_n 0, 1) := by decide +kernel
theorem dX12_bin_103 : decode cX12_bin 103 = .ok (.getfield 93, 3) := by decide +kernel
theorem dX12_bin_106 : decode cX12_bin 106 = .ok (.bipush 20, 2) := by decide +kernel
theorem dX12_bin_108 : decode cX12_bin 108 = .ok (.iload_n 1, 1) := by decide +kernel
theorem dX12_bin_109 : decode cX12_bin 109 = .ok (.imul, 1) := by decide +kernel
theorem dX12_bin_110 : decode cX12_bin 110 = .ok (.iaload, 1) := by decide +kernel
theorem dX12_bin_111 : decode cX12_bin 111 = .ok (.goto 4, 3) := by decide +kernel
theorem dX12_bin_114 : decode cX12_bin 114 = .ok (.iconst (-1), 1) := by decide +kernel
theorem dX12_bin_115 : decode cX12_bin 115 = .ok (.ireturn, 1) := by decide +kernel
theorem dX12_bin_116 : decode cX12_bin 116 = .ok (.iconst (-1), 1) := by decide +kernel
theorem dX12_bin_117 : decode cX12_bin 117 = .ok (.ireturn, 1) := by decide +kernel
theorem dX12_foretold_0 : decode cX12_foretold 0 = .ok (.iload_n 1, 1) := by decide +kernel
theorem dX12_foretold_1 : decode cX12_foretold 1 = .ok (.invokestatic 324, 3) := by decide +kernel
theorem dX12_foretold_4 : decode cX12_foretold 4 = .ok (.ifCond .ne 5, 3) := by decide +kernel
theorem dX12_foretold_7 : decode cX12_foretold 7 = .ok (.iconst (-1), 1) := by decide +kernel
theorem dX12_foretold_8 : decode cX12_foretold 8 = .ok (.ireturn, 1) := by decide +kernel
theorem dX12_foretold_9 : decode cX12_foretold 9 = .ok (.iconst 0, 1) := by decide +kernel
theorem dX12_foretold_10 : decode cX12_foretold 10 = .ok (.istore_n 2, 1) := by decide +kernel
theorem dX12_foretold_11 : decode cX12_foretold 11 = .ok (.iconst 0, 1) := by decide +kernel
theorem dX12_foretold_12 : decode cX12_foretold 12 = .ok (.istore_n 3, 1) := by decide +kernel
theorem dX12_foretold_13 : decode cX12_foretold 13 = .ok (.iload_n 3, 1) := by decide +kernel
theorem dX12_foretold_14 : decode cX12_foretold 14 = .ok (.aload_n 0, 1) := by decide +kernel
theorem dX12_foretold_15 : decode cX12_foretold 15 = .ok (.getfield 132, 3) := by decide +kernel
theorem dX12_foretold_18 : decode cX12_foretold 18 = .ok (.if_icmp .ge 22, 3) := by decide +kernel
theorem dX12_foretold_21 : decode cX12_foretold 21 = .ok (.iload_n 2, 1) := by decide +kernel
theorem dX12_foretold_22 : decode cX12_foretold 22 = .ok (.aload_n 0, 1) := by decide +kernel
theorem dX12_foretold_23 : decode cX12_foretold 23 = .ok (.getfield 25, 3) := by decide +kernel
theorem dX12_foretold_26 : decode cX12_foretold 26 = .ok (.iconst 4, 1) := by decide +kernel
theorem dX12_foretold_27 : decode cX12_foretold 27 = .ok (.iload_n 3, 1) := by decide +kernel
theorem dX12_foretold_28 : decode cX12_foretold 28 = .ok (.imul, 1) := by decide +kernel
theorem dX12_foretold_29 : decode cX12_foretold 29 = .ok (.iload_n 1, 1) := by decide +kernel
theorem dX12_foretold_30 : decode cX12_foretold 30 = .ok (.iadd, 1) := by decide +kernel
theorem dX12_foretold_31 : decode cX12_foretold 31 = .ok (.iaload, 1) := by decide +kernel
theorem dX12_foretold_32 : decode cX12_foretold 32 = .ok (.iadd, 1) := by decide +kernel
theorem dX12_foretold_33 : decode cX12_foretold 33 = .ok (.istore_n 2, 1) := by decide +kernel
theorem dX12_foretold_34 : decode cX12_foretold 34 = .ok (.iinc 3 1, 3) := by decide +kernel
theorem dX12_foretold_37 : decode cX12_foretold 37 = .ok (.goto (-24), 3) := by decide +kernel
theorem dX12_foretold_40 : decode cX12_foretold 40 = .ok (.iconst 0, 1) := by decide +kernel
theorem dX12_foretold_41 : decode cX12_foretold 41 = .ok (.istore_n 3, 1) := by decide +kernel
theorem dX12_foretold_42 : decode cX12_foretold 42 = .ok (.iload_n 3, 1) := by decide +kernel
theorem dX12_foretold_43 : decode cX12_foretold 43 = .ok (.aload_n 0, 1) := by decide +kernel
theorem dX12_foretold_44 : decode cX12_foretold 44 = .ok (.getfield 87, 3) := by decide +kernel
theorem dX12_foretold_47 : decode cX12_foretold 47 = .ok (.iload_n 1, 1) := by decide +kernel
theorem dX12_foretold_48 : decode cX12_foretold 48 = .ok (.iaload, 1) := by decide +kernel
theorem dX12_foretold_49 : decode cX12_foretold 49 = .ok (.if_icmp .ge 26, 3) := by decide +kernel
theorem dX12_foretold_52 : decode cX12_foretold 52 = .ok (.aload_n 0, 1) := by decide +kernel
theorem dX12_foretold_53 : decode cX12_foretold 53 = .ok (.getfield 129, 3) := by decide +kernel
theorem dX12_foretold_56 : decode cX12_foretold 56 = .ok (.iload_n 3, 1) := by decide +kernel
theorem dX12_foretold_57 : decode cX12_foretold 57 = .ok (.aload_n 0, 1) := by decide +kernel
theorem dX12_foretold_58 : decode cX12_foretold 58 = .ok (.getfield 90, 3) := by decide +kernel
theorem dX12_foretold_61 : decode cX12_foretold 61 = .ok (.bipush 20, 2) := by decide +kernel
theorem dX12_foretold_63 : decode cX12_foretold 63 = .ok (.iload_n 1, 1) := by decide +kernel
theorem dX12_foretold_64 : decode cX12_foretold 64 = .ok (.imul, 1) := by decide +kernel
theorem dX12_foretold_65 : decode cX12_foretold 65 = .ok (.iload_n 3, 1) := by decide +kernel
theorem dX12_foretold_66 : decode cX12_foretold 66 = .ok (.iadd, 1) := by decide +kernel
theorem dX12_foretold_67 : decode cX12_foretold 67 = .ok (.iaload, 1) := by decide +kernel
theorem dX12_foretold_68 : decode cX12_foretold 68 = .ok (.iastore, 1) := by decide +kernel
theorem dX12_foretold_69 : decode cX12_foretold 69 = .ok (.iinc 3 1, 3) := by decide +kernel
theorem dX12_foretold_72 : decode cX12_foretold 72 = .ok (.goto (-30), 3) := by decide +kernel
theorem dX12_foretold_75 : decode cX12_foretold 75 = .ok (.iconst 0, 1) := by decide +kernel
theorem dX12_foretold_76 : decode cX12_foretold 76 = .ok (.istore_n 3, 1) := by decide +kernel
theorem dX12_foretold_77 : decode cX12_foretold 77 = .ok (.iload_n 3, 1) := by decide +kernel
theorem dX12_foretold_78 : decode cX12_foretold 78 = .ok (.sipush 400, 3) := by decide +kernel
theorem dX12_foretold_81 : decode cX12_foretold 81 = .ok (.if_icmp .ge 113, 3) := by decide +kernel
theorem dX12_foretold_84 : decode cX12_foretold 84 = .ok (.iload_n 2, 1) := by decide +kernel
theorem dX12_foretold_85 : decode cX12_foretold 85 = .ok (.istore 4, 2) := by decide +kernel
theorem dX12_foretold_87 : decode cX12_foretold 87 = .ok (.iconst 0, 1) := by decide +kernel
theorem dX12_foretold_88 : decode cX12_foretold 88 = .ok (.istore 5, 2) := by decide +kernel
theorem dX12_foretold_90 : decode cX12_foretold 90 = .ok (.iload 5, 2) := by decide +kernel
theorem dX12_foretold_92 : decode cX12_foretold 92 = .ok (.aload_n 0, 1) := by decide +kernel
theorem dX12_foretold_93 : decode cX12_foretold 93 = .ok (.getfield 87, 3) := by decide +kernel
theorem dX12_foretold_96 : decode cX12_foretold 96 = .ok (.iload_n 1, 1) := by decide +kernel
theorem dX12_foretold_97 : decode cX12_foretold 97 = .ok (.iaload, 1) := by decide +kernel
theorem dX12_foretold_98 : decode cX12_foretold 98 = .ok (.if_icmp .ge 83, 3) := by decide +kernel
theorem dX12_foretold_101 : decode cX12_foretold 101 = .ok (.iload 4, 2) := by decide +kernel
theorem dX12_foretold_103 : decode cX12_foretold 103 = .ok (.ifCond .le 78, 3) := by decide +kernel
theorem dX12_foretold_106 : decode cX12_foretold 106 = .ok (.aload_n 0, 1) := by decide +kernel
theorem dX12_foretold_107 : decode cX12_foretold 107 = .ok (.getfield 93, 3) := by decide +kernel
theorem dX12_foretold_110 : decode cX12_foretold 110 = .ok (.bipush 20, 2) := by decide +kernel
theorem dX12_foretold_112 : decode cX12_foretold 112 = .ok (.iload_n 1, 1) := by decide +kernel
theorem dX12_foretold_113 : decode cX12_foretold 113 = .ok (.imul, 1) := by decide +kernel
theorem dX12_foretold_114 : decode cX12_foretold 114 = .ok (.iload 5, 2) := by decide +kernel
theorem dX12_foretold_116 : decode cX12_foretold 116 = .ok (.iadd, 1) := by decide +kernel
theorem dX12_foretold_117 : decode cX12_foretold 117 = .ok (.iaload, 1) := by decide +kernel
theorem dX12_foretold_118 : decode cX12_foretold 118 = .ok (.aload_n 0, 1) := by decide +kernel
theorem dX12_foretold_119 : decode cX12_foretold 119 = .ok (.getfield 135, 3) := by decide +kernel
theorem dX12_foretold_122 : decode cX12_foretold 122 = .ok (.iload_n 3, 1) := by decide +kernel
theorem dX12_foretold_123 : decode cX12_foretold 123 = .ok (.iadd, 1) := by decide +kernel
theorem dX12_foretold_124 : decode cX12_foretold 124 = .ok (.if_icmp .ge 6, 3) := by decide +kernel
theorem dX12_foretold_127 : decode cX12_foretold 127 = .ok (.goto 48, 3) := by decide +kernel
theorem dX12_foretold_130 : decode cX12_foretold 130 = .ok (.aload_n 0, 1) := by decide +kernel
theorem dX12_foretold_131 : decode cX12_foretold 131 = .ok (.getfield 129, 3) := by decide +kernel
theorem dX12_foretold_134 : decode cX12_foretold 134 = .ok (.iload 5, 2) := by decide +kernel
theorem dX12_foretold_136 : decode cX12_foretold 136 = .ok (.iaload, 1) := by decide +kernel
theorem dX12_foretold_137 : decode cX12_foretold 137 = .ok (.iload 4, 2) := by decide +kernel
theorem dX12_foretold_139 : decode cX12_foretold 139 = .ok (.if_icmp .ge 13, 3) := by decide +kernel
theorem dX12_foretold_142 : decode cX12_foretold 142 = .ok (.aload_n 0, 1) := by decide +kernel
theorem dX12_foretold_143 : decode cX12_foretold 143 = .ok (.getfield 129, 3) := by decide +kernel
theorem dX12_foretold_146 : decode cX12_foretold 146 = .ok (.iload 5, 2) := by decide +kernel
theorem dX12_foretold_148 : decode cX12_foretold 148 = .ok (.iaload, 1) := by decide +kernel
theorem dX12_foretold_149 : decode cX12_foretold 149 = .ok (.goto 5, 3) := by decide +kernel
theorem dX12_foretold_152 : decode cX12_foretold 152 = .ok (.iload 4, 2) := by decide +kernel
theorem dX12_foretold_154 : decode cX12_foretold 154 = .ok (.istore 6, 2) := by decide +kernel
theorem dX12_foretold_156 : decode cX12_foretold 156 = .ok (.aload_n 0, 1) := by decide +kernel
theorem dX12_foretold_157 : decode cX12_foretold 157 = .ok (.getfield 129, 3) := by decide +kernel
theorem dX12_foretold_160 : decode cX12_foretold 160 = .ok (.iload 5, 2) := by decide +kernel
theorem dX12_foretold_162 : decode cX12_foretold 162 = .ok (.dup2, 1) := by decide +kernel
theorem dX12_foretold_163 : decode cX12_foretold 163 = .ok (.iaload, 1) := by decide +kernel
theorem dX12_foretold_164 : decode cX12_foretold 164 = .ok (.iload 6, 2) := by decide +kernel
theorem dX12_foretold_166 : decode cX12_foretold 166 = .ok (.isub, 1) := by decide +kernel
theorem dX12_foretold_167 : decode cX12_foretold 167 = .ok (.iastore, 1) := by decide +kernel
theorem dX12_foretold_168 : decode cX12_foretold 168 = .ok (.iload 4, 2) := by decide +kernel
theorem dX12_foretold_170 : decode cX12_foretold 170 = .ok (.iload 6, 2) := by decide +kernel
theorem dX12_foretold_172 : decode cX12_foretold 172 = .ok (.isub, 1) := by decide +kernel
theorem dX12_foretold_173 : decode cX12_foretold 173 = .ok (.istore 4, 2) := by decide +kernel
theorem dX12_foretold_175 : decode cX12_foretold 175 = .ok (.iinc 5 1, 3) := by decide +kernel
theorem dX12_foretold_178 : decode cX12_foretold 178 = .ok (.goto (-88), 3) := by decide +kernel
theorem dX12_foretold_181 : decode cX12_foretold 181 = .ok (.iload 4, 2) := by decide +kernel
theorem dX12_foretold_183 : decode cX12_foretold 183 = .ok (.ifCond .le 5, 3) := by decide +kernel
theorem dX12_foretold_186 : decode cX12_foretold 186 = .ok (.iload_n 3, 1) := by decide +kernel
theorem dX12_foretold_187 : decode cX12_foretold 187 = .ok (.ireturn, 1) := by decide +kernel
theorem dX12_foretold_188 : decode cX12_foretold 188 = .ok (.iinc 3 1, 3) := by decide +kernel
theorem dX12_foretold_191 : decode cX12_foretold 191 = .ok (.goto (-114), 3) := by decide +kernel
theorem dX12_foretold_194 : decode cX12_foretold 194 = .ok (.sipush 400, 3) := by decide +kernel
theorem dX12_foretold_197 : decode cX12_foretold 197 = .ok (.ireturn, 1) := by decide +kernel
theorem dX12_work_0 : decode cX12_work 0 = .ok (.aload_n 0, 1) := by decide +kernel
theorem dX12_work_1 : decode cX12_work 1 = .ok (.getfield 337, 3) := by decide +kernel
theorem dX12_work_4 : decode cX12_work 4 = .ok (.sipush 200, 3) := by decide +kernel
theorem dX12_work_7 : decode cX12_work 7 = .ok (.if_icmp .eq 38, 3) := by decide +kernel
theorem dX12_work_10 : decode cX12_work 10 = .ok (.aload_n 0, 1) := by decide +kernel
theorem dX12_work_11 : decode cX12_work 11 = .ok (.iload_n 1, 1) := by decide +kernel
theorem dX12_work_12 : decode cX12_work 12 = .ok (.invokevirtual 142, 3) := by decide +kernel
theorem dX12_work_15 : decode cX12_work 15 = .ok (.ifCond .eq 30, 3) := by decide +kernel
theorem dX12_work_18 : decode cX12_work 18 = .ok (.iload_n 2, 1) := by decide +kernel
theorem dX12_work_19 : decode cX12_work 19 = .ok (.ifCond .lt 26, 3) := by decide +kernel
theorem dX12_work_22 : decode cX12_work 22 = .ok (.iload_n 2, 1) := by decide +kernel
theorem dX12_work_23 : decode cX12_work 23 = .ok (.iconst 2, 1) := by decide +kernel
theorem dX12_work_24 : decode cX12_work 24 = .ok (.if_icmp .gt 21, 3) := by decide +kernel
theorem dX12_work_27 : decode cX12_work 27 = .ok (.iload_n 3, 1) := by decide +kernel
theorem dX12_work_28 : decode cX12_work 28 = .ok (.aload_n 0, 1) := by decide +kernel
theorem dX12_work_29 : decode cX12_work 29 = .ok (.getfield 135, 3) := by decide +kernel
theorem dX12_work_32 : decode cX12_work 32 = .ok (.if_icmp .gt 13, 3) := by decide +kernel
theorem dX12_work_35 : decode cX12_work 35 = .ok (.iload_n 3, 1) := by decide +kernel
theorem dX12_work_36 : decode cX12_work 36 = .ok (.aload_n 0, 1) := by decide +kernel
theorem dX12_work_37 : decode cX12_work 37 = .ok (.getfield 16, 3) := by decide +kernel
theorem dX12_work_40 : decode cX12_work 40 = .ok (.iload_n 1, 1) := by decide +kernel
theorem dX12_work_41 : decode cX12_work 41 = .ok (.iaload, 1) := by decide +kernel
theorem dX12_work_42 : decode cX12_work 42 = .ok (.if_icmp .ge 5, 3) := by decide +kernel
theorem dX12_work_45 : decode cX12_work 45 = .ok (.iconst (-1), 1) := by decide +kernel
theorem dX12_work_46 : decode cX12_work 46 = .ok (.ireturn, 1) := by decide +kernel
theorem dX12_work_47 : decode cX12_work 47 = .ok (.aload_n 0, 1) := by decide +kernel
theorem dX12_work_48 : decode cX12_work 48 = .ok (.getfield 114, 3) := by decide +kernel
theorem dX12_work_51 : decode cX12_work 51 = .ok (.aload_n 0, 1) := by decide +kernel
theorem dX12_work_52 : decode cX12_work 52 = .ok (.getfield 337, 3) := by decide +kernel
theorem dX12_work_55 : decode cX12_work 55 = .ok (.iload_n 1, 1) := by decide +kernel
theorem dX12_work_56 : decode cX12_work 56 = .ok (.iastore, 1) := by decide +kernel
theorem dX12_work_57 : decode cX12_work 57 = .ok (.aload_n 0, 1) := by decide +kernel
theorem dX12_work_58 : decode cX12_work 58 = .ok (.getfield 117, 3) := by decide +kernel
theorem dX12_work_61 : decode cX12_work 61 = .ok (.aload_n 0, 1) := by decide +kernel
theorem dX12_work_62 : decode cX12_work 62 = .ok (.getfield 337, 3) := by decide +kernel
theorem dX12_work_65 : decode cX12_work 65 = .ok (.iload_n 2, 1) := by decide +kernel
theorem dX12_work_66 : decode cX12_work 66 = .ok (.iastore, 1) := by decide +kernel
theorem dX12_work_67 : decode cX12_work 67 = .ok (.aload_n 0, 1) := by decide +kernel
theorem dX12_work_68 : decode cX12_work 68 = .ok (.getfield 120, 3) := by decide +kernel
theorem dX12_work_71 : decode cX12_work 71 = .ok (.aload_n 0, 1) := by decide +kernel
theorem dX12_work_72 : decode cX12_work 72 = .ok (.getfield 337, 3) := by decide +kernel
theorem dX12_work_75 : decode cX12_work 75 = .ok (.iload_n 3, 1) := by decide +kernel
theorem dX12_work_76 : decode cX12_work 76 = .ok (.iastore, 1) := by decide +kernel
theorem dX12_work_77 : decode cX12_work 77 = .ok (.aload_n 0, 1) := by decide +kernel
theorem dX12_work_78 : decode cX12_work 78 = .ok (.getfield 123, 3) := by decide +kernel
theorem dX12_work_81 : decode cX12_work 81 = .ok (.aload_n 0, 1) := by decide +kernel
theorem dX12_work_82 : decode cX12_work 82 = .ok (.getfield 337, 3) := by decide +kernel
theorem dX12_work_85 : decode cX12_work 85 = .ok (.aload_n 0, 1) := by decide +kernel
theorem dX12_work_86 : decode cX12_work 86 = .ok (.getfield 135, 3) := by decide +kernel
theorem dX12_work_89 : decode cX12_work 89 = .ok (.iastore, 1) := by decide +kernel
theorem dX12_work_90 : decode cX12_work 90 = .ok (.aload_n 0, 1) := by decide +kernel
theorem dX12_work_91 : decode cX12_work 91 = .ok (.getfield 126, 3) := by decide +kernel
theorem dX12_work_94 : decode cX12_work 94 = .ok (.aload_n 0, 1) := by decide +kernel
theorem dX12_work_95 : decode cX12_work 95 = .ok (.getfield 337, 3) := by decide +kernel
theorem dX12_work_98 : decode cX12_work 98 = .ok (.aload_n 0, 1) := by decide +kernel
theorem dX12_work_99 : decode cX12_work 99 = .ok (.getfield 99, 3) := by decide +kernel
theorem dX12_work_102 : decode cX12_work 102 = .ok (.iconst 5, 1) := by decide +kernel
theorem dX12_work_103 : decode cX12_work 103 = .ok (.iload_n 2, 1) := by decide +kernel
theorem dX12_work_104 : decode cX12_work 104 = .ok (.iadd, 1) := by decide +kernel
theorem dX12_work_105 : decode cX12_work 105 = .ok (.iaload, 1) := by decide +kernel
theorem dX12_work_106 : decode cX12_work 106 = .ok (.iastore, 1) := by decide +kernel
theorem dX12_work_107 : decode cX12_work 107 = .ok (.aload_n 0, 1) := by decide +kernel
theorem dX12_work_108 : decode cX12_work 108 = .ok (.dup, 1) := by decide +kernel
theorem dX12_work_109 : decode cX12_work 109 = .ok (.getfield 337, 3) := by decide +kernel
theorem dX12_work_112 : decode cX12_work 112 = .ok (.iconst 1, 1) := by decide +kernel
theorem dX12_work_113 : decode cX12_work 113 = .ok (.iadd, 1) := by decide +kernel
theorem dX12_work_114 : decode cX12_work 114 = .ok (.putfield 337, 3) := by decide +kernel
theorem dX12_work_117 : decode cX12_work 117 = .ok (.aload_n 0, 1) := by decide +kernel
theorem dX12_work_118 : decode cX12_work 118 = .ok (.getfield 337, 3) := by decide +kernel
theorem dX12_work_121 : decode cX12_work 121 = .ok (.ireturn, 1) := by decide +kernel
theorem dX12_due_0 : decode cX12_due 0 = .ok (.aload_n 0, 1) := by decide +kernel
theorem dX12_due_1 : decode cX12_due 1 = .ok (.iload_n 1, 1) := by decide +kernel
theorem dX12_due_2 : decode cX12_due 2 = .ok (.invokevirtual 142, 3) := by decide +kernel
theorem dX12_due_5 : decode cX12_due 5 = .ok (.ifCond .eq 21, 3) := by decide +kernel
theorem dX12_due_8 : decode cX12_due 8 = .ok (.iload_n 2, 1) := by decide +kernel
theorem dX12_due_9 : decode cX12_due 9 = .ok (.ifCond .lt 17, 3) := by decide +kernel
theorem dX12_due_12 : decode cX12_due 12 = .ok (.iload_n 2, 1) := by decide +kernel
theorem dX12_due_13 : decode cX12_due 13 = .ok (.iconst 2, 1) := by decide +kernel
theorem dX12_due_14 : decode cX12_due 14 = .ok (.if_icmp .gt 12, 3) := by decide +kernel
theorem dX12_due_17 : decode cX12_due 17 = .ok (.aload_n 0, 1) := by decide +kernel
theorem dX12_due_18 : decode cX12_due 18 = .ok (.getfield 102, 3) := by decide +kernel
theorem dX12_due_21 : decode cX12_due 21 = .ok (.iload_n 2, 1) := by decide +kernel
theorem dX12_due_22 : decode cX12_due 22 = .ok (.iaload, 1) := by decide +kernel
theorem dX12_due_23 : decode cX12_due 23 = .ok (.ifCond .ne 5, 3) := by decide +kernel
theorem dX12_due_26 : decode cX12_due 26 = .ok (.iconst (-1), 1) := by decide +kernel
theorem dX12_due_27 : decode cX12_due 27 = .ok (.ireturn, 1) := by decide +kernel
theorem dX12_due_28 : decode cX12_due 28 = .ok (.aload_n 0, 1) := by decide +kernel
theorem dX12_due_29 : decode cX12_due 29 = .ok (.getfield 16, 3) := by decide +kernel
theorem dX12_due_32 : decode cX12_due 32 = .ok (.iload_n 1, 1) := by decide +kernel
theorem dX12_due_33 : decode cX12_due 33 = .ok (.iaload, 1) := by decide +kernel
theorem dX12_due_34 : decode cX12_due 34 = .ok (.istore_n 3, 1) := by decide +kernel
theorem dX12_due_35 : decode cX12_due 35 = .ok (.iconst 0, 1) := by decide +kernel
theorem dX12_due_36 : decode cX12_due 36 = .ok (.istore 4, 2) := by decide +kernel
theorem dX12_due_38 : decode cX12_due 38 = .ok (.iload 4, 2) := by decide +kernel
theorem dX12_due_40 : decode cX12_due 40 = .ok (.aload_n 0, 1) := by decide +kernel
theorem dX12_due_41 : decode cX12_due 41 = .ok (.getfield 337, 3) := by decide +kernel
theorem dX12_due_44 : decode cX12_due 44 = .ok (.if_icmp .ge 50, 3) := by decide +kernel
theorem dX12_due_47 : decode cX12_due 47 = .ok (.aload_n 0, 1) := by decide +kernel
theorem dX12_due_48 : decode cX12_due 48 = .ok (.getfield 114, 3) := by decide +kernel
theorem dX12_due_51 : decode cX12_due 51 = .ok (.iload 4, 2) := by decide +kernel
theorem dX12_due_53 : decode cX12_due 53 = .ok (.iaload, 1) := by decide +kernel
theorem dX12_due_54 : decode cX12_due 54 = .ok (.iload_n 1, 1) := by decide +kernel
theorem dX12_due_55 : decode cX12_due 55 = .ok (.if_icmp .ne 33, 3) := by decide +kernel
theorem dX12_due_58 : decode cX12_due 58 = .ok (.aload_n 0, 1) := by decide +kernel
theorem dX12_due_59 : decode cX12_due 59 = .ok (.getfield 117, 3) := by decide +kernel
theorem dX12_due_62 : decode cX12_due 62 = .ok (.iload 4, 2) := by decide +kernel
theorem dX12_due_64 : decode cX12_due 64 = .ok (.iaload, 1) := by decide +kernel
theorem dX12_due_65 : decode cX12_due 65 = .ok (.iload_n 2, 1) := by decide +kernel
theorem dX12_due_66 : decode cX12_due 66 = .ok (.if_icmp .ne 22, 3) := by decide +kernel
theorem dX12_due_69 : decode cX12_due 69 = .ok (.aload_n 0, 1) := by decide +kernel
theorem dX12_due_70 : decode cX12_due 70 = .ok (.getfield 120, 3) := by decide +kernel
theorem dX12_due_73 : decode cX12_due 73 = .ok (.iload 4, 2) := by decide +kernel
theorem dX12_due_75 : decode cX12_due 75 = .ok (.iaload, 1) := by decide +kernel
theorem dX12_due_76 : decode cX12_due 76 = .ok (.iload_n 3, 1) := by decide +kernel
theorem dX12_due_77 : decode cX12_due 77 = .ok (.if_icmp .le 11, 3) := by decide +kernel
theorem dX12_due_80 : decode cX12_due 80 = .ok (.aload_n 0, 1) := by decide +kernel
theorem dX12_due_81 : decode cX12_due 81 = .ok (.getfield 120, 3) := by decide +kernel
theorem dX12_due_84 : decode cX12_due 84 = .ok (.iload 4, 2) := by decide +kernel
theorem dX12_due_86 : decode cX12_due 86 = .ok (.iaload, 1) := by decide +kernel
theorem dX12_due_87 : decode cX12_due 87 = .ok (.istore_n 3, 1) := by decide +kernel
theorem dX12_due_88 : decode cX12_due 88 = .ok (.iinc 4 1, 3) := by decide +kernel
theorem dX12_due_91 : decode cX12_due 91 = .ok (.goto (-53), 3) := by decide +kernel
theorem dX12_due_94 : decode cX12_due 94 = .ok (.iload_n 3, 1) := by decide +kernel
theorem dX12_due_95 : decode cX12_due 95 = .ok (.aload_n 0, 1) := by decide +kernel
theorem dX12_due_96 : decode cX12_due 96 = .ok (.getfield 102, 3) := by decide +kernel
theorem dX12_due_99 : decode cX12_due 99 = .ok (.iload_n 2, 1) := by decide +kernel
theorem dX12_due_100 : decode cX12_due 100 = .ok (.iaload, 1) := by decide +kernel
theorem dX12_due_101 : decode cX12_due 101 = .ok (.iadd, 1) := by decide +kernel
theorem dX12_due_102 : decode cX12_due 102 = .ok (.ireturn, 1) := by decide +kernel
theorem dX12_bill_0 : decode cX12_bill 0 = .ok (.aload_n 0, 1) := by decide +kernel
theorem dX12_bill_1 : decode cX12_bill 1 = .ok (.iload_n 1, 1) := by decide +kernel
theorem dX12_bill_2 : decode cX12_bill 2 = .ok (.invokevirtual 142, 3) := by decide +kernel
theorem dX12_bill_5 : decode cX12_bill 5 = .ok (.ifCond .eq 8, 3) := by decide +kernel
theorem dX12_bill_8 : decode cX12_bill 8 = .ok (.iload_n 2, 1) := by decide +kernel
theorem dX12_bill_9 : decode cX12_bill 9 = .ok (.iload_n 3, 1) := by decide +kernel
theorem dX12_bill_10 : decode cX12_bill 10 = .ok (.if_icmp .le 5, 3) := by decide +kernel
theorem dX12_bill_13 : decode cX12_bill 13 = .ok (.iconst (-1), 1) := by decide +kernel
theorem dX12_bill_14 : decode cX12_bill 14 = .ok (.ireturn, 1) := by decide +kernel
theorem dX12_bill_15 : decode cX12_bill 15 = .ok (.iconst 0, 1) := by decide +kernel
theorem dX12_bill_16 : decode cX12_bill 16 = .ok (.istore 5, 2) := by decide +kernel
theorem dX12_bill_18 : decode cX12_bill 18 = .ok (.iconst 0, 1) := by decide +kernel
theorem dX12_bill_19 : decode cX12_bill 19 = .ok (.istore 6, 2) := by decide +kernel
theorem dX12_bill_21 : decode cX12_bill 21 = .ok (.iload 6, 2) := by decide +kernel
theorem dX12_bill_23 : decode cX12_bill 23 = .ok (.aload_n 0, 1) := by decide +kernel
theorem dX12_bill_24 : decode cX12_bill 24 = .ok (.getfield 330, 3) := by decide +kernel
theorem dX12_bill_27 : decode cX12_bill 27 = .ok (.if_icmp .ge 66, 3) := by decide +kernel
theorem dX12_bill_30 : decode cX12_bill 30 = .ok (.aload_n 0, 1) := by decide +kernel
theorem dX12_bill_31 : decode cX12_bill 31 = .ok (.getfield 105, 3) := by decide +kernel
theorem dX12_bill_34 : decode cX12_bill 34 = .ok (.iload 6, 2) := by decide +kernel
theorem dX12_bill_36 : decode cX12_bill 36 = .ok (.iaload, 1) := by decide +kernel
theorem dX12_bill_37 : decode cX12_bill 37 = .ok (.iload_n 1, 1) := by decide +kernel
theorem dX12_bill_38 : decode cX12_bill 38 = .ok (.if_icmp .ne 49, 3) := by decide +kernel
theorem dX12_bill_41 : decode cX12_bill 41 = .ok (.aload_n 0, 1) := by decide +kernel
theorem dX12_bill_42 : decode cX12_bill 42 = .ok (.getfield 108, 3) := by decide +kernel
theorem dX12_bill_45 : decode cX12_bill 45 = .ok (.iload 6, 2) := by decide +kernel
theorem dX12_bill_47 : decode cX12_bill 47 = .ok (.iaload, 1) := by decide +kernel
theorem dX12_bill_48 : decode cX12_bill 48 = .ok (.iload_n 2, 1) := by decide +kernel
theorem dX12_bill_49 : decode cX12_bill 49 = .ok (.if_icmp .lt 38, 3) := by decide +kernel
theorem dX12_bill_52 : decode cX12_bill 52 = .ok (.aload_n 0, 1) := by decide +kernel
theorem dX12_bill_53 : decode cX12_bill 53 = .ok (.getfield 108, 3) := by decide +kernel
theorem dX12_bill_56 : decode cX12_bill 56 = .ok (.iload 6, 2) := by decide +kernel
theorem dX12_bill_58 : decode cX12_bill 58 = .ok (.iaload, 1) := by decide +kernel
theorem dX12_bill_59 : decode cX12_bill 59 = .ok (.iload_n 3, 1) := by decide +kernel
theorem dX12_bill_60 : decode cX12_bill 60 = .ok (.if_icmp .gt 27, 3) := by decide +kernel
theorem dX12_bill_63 : decode cX12_bill 63 = .ok (.aload_n 0, 1) := by decide +kernel
theorem dX12_bill_64 : decode cX12_bill 64 = .ok (.getfield 108, 3) := by decide +kernel
theorem dX12_bill_67 : decode cX12_bill 67 = .ok (.iload 6, 2) := by decide +kernel
theorem dX12_bill_69 : decode cX12_bill 69 = .ok (.iaload, 1) := by decide +kernel
theorem dX12_bill_70 : decode cX12_bill 70 = .ok (.iload 4, 2) := by decide +kernel
theorem dX12_bill_72 : decode cX12_bill 72 = .ok (.if_icmp .gt 15, 3) := by decide +kernel
theorem dX12_bill_75 : decode cX12_bill 75 = .ok (.iload 5, 2) := by decide +kernel
theorem dX12_bill_77 : decode cX12_bill 77 = .ok (.aload_n 0, 1) := by decide +kernel
theorem dX12_bill_78 : decode cX12_bill 78 = .ok (.getfield 111, 3) := by decide +kernel
theorem dX12_bill_81 : decode cX12_bill 81 = .ok (.iload 6, 2) := by decide +kernel
theorem dX12_bill_83 : decode cX12_bill 83 = .ok (.iaload, 1) := by decide +kernel
theorem dX12_bill_84 : decode cX12_bill 84 = .ok (.iadd, 1) := by decide +kernel
theorem dX12_bill_85 : decode cX12_bill 85 = .ok (.istore 5, 2) := by decide +kernel
theorem dX12_bill_87 : decode cX12_bill 87 = .ok (.iinc 6 1, 3) := by decide +kernel
theorem dX12_bill_90 : decode cX12_bill 90 = .ok (.goto (-69), 3) := by decide +kernel
theorem dX12_bill_93 : decode cX12_bill 93 = .ok (.iconst 0, 1) := by decide +kernel
theorem dX12_bill_94 : decode cX12_bill 94 = .ok (.istore 6, 2) := by decide +kernel
theorem dX12_bill_96 : decode cX12_bill 96 = .ok (.iload 6, 2) := by decide +kernel
theorem dX12_bill_98 : decode cX12_bill 98 = .ok (.aload_n 0, 1) := by decide +kernel
theorem dX12_bill_99 : decode cX12_bill 99 = .ok (.getfield 337, 3) := by decide +kernel
theorem dX12_bill_102 : decode cX12_bill 102 = .ok (.if_icmp .ge 66, 3) := by decide +kernel
theorem dX12_bill_105 : decode cX12_bill 105 = .ok (.aload_n 0, 1) := by decide +kernel
theorem dX12_bill_106 : decode cX12_bill 106 = .ok (.getfield 114, 3) := by decide +kernel
theorem dX12_bill_109 : decode cX12_bill 109 = .ok (.iload 6, 2) := by decide +kernel
theorem dX12_bill_111 : decode cX12_bill 111 = .ok (.iaload, 1) := by decide +kernel
theorem dX12_bill_112 : decode cX12_bill 112 = .ok (.iload_n 1, 1) := by decide +kernel
theorem dX12_bill_113 : decode cX12_bill 113 = .ok (.if_icmp .ne 49, 3) := by decide +kernel
theorem dX12_bill_116 : decode cX12_bill 116 = .ok (.aload_n 0, 1) := by decide +kernel
theorem dX12_bill_117 : decode cX12_bill 117 = .ok (.getfield 120, 3) := by decide +kernel
theorem dX12_bill_120 : decode cX12_bill 120 = .ok (.iload 6, 2) := by decide +kernel
theorem dX12_bill_122 : decode cX12_bill 122 = .ok (.iaload, 1) := by decide +kernel
theorem dX12_bill_123 : decode cX12_bill 123 = .ok (.iload_n 2, 1) := by decide +kernel
theorem dX12_bill_124 : decode cX12_bill 124 = .ok (.if_icmp .lt 38, 3) := by decide +kernel
theorem dX12_bill_127 : decode cX12_bill 127 = .ok (.aload_n 0, 1) := by decide +kernel
theorem dX12_bill_128 : decode cX12_bill 128 = .ok (.getfield 120, 3) := by decide +kernel
theorem dX12_bill_131 : decode cX12_bill 131 = .ok (.iload 6, 2) := by decide +kernel
theorem dX12_bill_133 : decode cX12_bill 133 = .ok (.iaload, 1) := by decide +kernel
theorem dX12_bill_134 : decode cX12_bill 134 = .ok (.iload_n 3, 1) := by decide +kernel
theorem dX12_bill_135 : decode cX12_bill 135 = .ok (.if_icmp .gt 27, 3) := by decide +kernel
theorem dX12_bill_138 : decode cX12_bill 138 = .ok (.aload_n 0, 1) := by decide +kernel
theorem dX12_bill_139 : decode cX12_bill 139 = .ok (.getfield 123, 3) := by decide +kernel
theorem dX12_bill_142 : decode cX12_bill 142 = .ok (.iload 6, 2) := by decide +kernel
theorem dX12_bill_144 : decode cX12_bill 144 = .ok (.iaload, 1) := by decide +kernel
theorem dX12_bill_145 : decode cX12_bill 145 = .ok (.iload 4, 2) := by decide +kernel
theorem dX12_bill_147 : decode cX12_bill 147 = .ok (.if_icmp .gt 15, 3) := by decide +kernel
theorem dX12_bill_150 : decode cX12_bill 150 = .ok (.iload 5, 2) := by decide +kernel
theorem dX12_bill_152 : decode cX12_bill 152 = .ok (.aload_n 0, 1) := by decide +kernel
theorem dX12_bill_153 : decode cX12_bill 153 = .ok (.getfield 126, 3) := by decide +kernel
theorem dX12_bill_156 : decode cX12_bill 156 = .ok (.iload 6, 2) := by decide +kernel
theorem dX12_bill_158 : decode cX12_bill 158 = .ok (.iaload, 1) := by decide +kernel
theorem dX12_bill_159 : decode cX12_bill 159 = .ok (.iadd, 1) := by decide +kernel
theorem dX12_bill_160 : decode cX12_bill 160 = .ok (.istore 5, 2) := by decide +kernel
theorem dX12_bill_162 : decode cX12_bill 162 = .ok (.iinc 6 1, 3) := by decide +kernel
theorem dX12_bill_165 : decode cX12_bill 165 = .ok (.goto (-69), 3) := by decide +kernel
theorem dX12_bill_168 : decode cX12_bill 168 = .ok (.iload 5, 2) := by decide +kernel
theorem dX12_bill_170 : decode cX12_bill 170 = .ok (.ireturn, 1) := by decide +kernel
theorem dX12_lacked_0 : decode cX12_lacked 0 = .ok (.aload_n 0, 1) := by decide +kernel
theorem dX12_lacked_1 : decode cX12_lacked 1 = .ok (.iload_n 1, 1) := by decide +kernel
theorem dX12_lacked_2 : decode cX12_lacked 2 = .ok (.invokevirtual 142, 3) := by decide +kernel
theorem dX12_lacked_5 : decode cX12_lacked 5 = .ok (.ifCond .eq 12, 3) := by decide +kernel
theorem dX12_lacked_8 : decode cX12_lacked 8 = .ok (.aload_n 0, 1) := by decide +kernel
theorem dX12_lacked_9 : decode cX12_lacked 9 = .ok (.getfield 22, 3) := by decide +kernel
theorem dX12_lacked_12 : decode cX12_lacked 12 = .ok (.iload_n 1, 1) := by decide +kernel
theorem dX12_lacked_13 : decode cX12_lacked 13 = .ok (.iaload, 1) := by decide +kernel
theorem dX12_lacked_14 : decode cX12_lacked 14 = .ok (.goto 4, 3) := by decide +kernel
theorem dX12_lacked_17 : decode cX12_lacked 17 = .ok (.iconst (-1), 1) := by decide +kernel
theorem dX12_lacked_18 : decode cX12_lacked 18 = .ok (.ireturn, 1) := by decide +kernel
theorem dX12_about_0 : decode cX12_about 0 = .ok (.iload_n 1, 1) := by decide +kernel
theorem dX12_about_1 : decode cX12_about 1 = .ok (.tableswitch 86 0 6 #[43, 48, 53, 58, 63, 76, 81], 43) := by decide +kernel
theorem dX12_about_44 : decode cX12_about 44 = .ok (.aload_n 0, 1) := by decide +kernel
theorem dX12_about_45 : decode cX12_about 45 = .ok (.getfield 135, 3) := by decide +kernel
theorem dX12_about_48 : decode cX12_about 48 = .ok (.ireturn, 1) := by decide +kernel
theorem dX12_about_49 : decode cX12_about 49 = .ok (.aload_n 0, 1) := by decide +kernel
theorem dX12_about_50 : decode cX12_about 50 = .ok (.getfield 132, 3) := by decide +kernel
theorem dX12_about_53 : decode cX12_about 53 = .ok (.ireturn, 1) := by decide +kernel
theorem dX12_about_54 : decode cX12_about 54 = .ok (.aload_n 0, 1) := by decide +kernel
theorem dX12_about_55 : decode cX12_about 55 = .ok (.getfield 287, 3) := by decide +kernel
theorem dX12_about_58 : decode cX12_about 58 = .ok (.ireturn, 1) := by decide +kernel
theorem dX12_about_59 : decode cX12_about 59 = .ok (.aload_n 0, 1) := by decide +kernel
theorem dX12_about_60 : decode cX12_about 60 = .ok (.getfield 337, 3) := by decide +kernel
theorem dX12_about_63 : decode cX12_about 63 = .ok (.ireturn, 1) := by decide +kernel
theorem dX12_about_64 : decode cX12_about 64 = .ok (.aload_n 0, 1) := by decide +kernel
theorem dX12_about_65 : decode cX12_about 65 = .ok (.getfield 138, 3) := by decide +kernel
theorem dX12_about_68 : decode cX12_about 68 = .ok (.ifCond .eq 7, 3) := by decide +kernel
theorem dX12_about_71 : decode cX12_about 71 = .ok (.iconst 1, 1) := by decide +kernel
theorem dX12_about_72 : decode cX12_about 72 = .ok (.goto 4, 3) := by decide +kernel
theorem dX12_about_75 : decode cX12_about 75 = .ok (.iconst 0, 1) := by decide +kernel
theorem dX12_about_76 : decode cX12_about 76 = .ok (.ireturn, 1) := by decide +kernel
theorem dX12_about_77 : decode cX12_about 77 = .ok (.aload_n 0, 1) := by decide +kernel
theorem dX12_about_78 : decode cX12_about 78 = .ok (.getfield 150, 3) := by decide +kernel
theorem dX12_about_81 : decode cX12_about 81 = .ok (.ireturn, 1) := by decide +kernel
theorem dX12_about_82 : decode cX12_about 82 = .ok (.aload_n 0, 1) := by decide +kernel
theorem dX12_about_83 : decode cX12_about 83 = .ok (.getfield 330, 3) := by decide +kernel
theorem dX12_about_86 : decode cX12_about 86 = .ok (.ireturn, 1) := by decide +kernel
theorem dX12_about_87 : decode cX12_about 87 = .ok (.iconst (-1), 1) := by decide +kernel
theorem dX12_about_88 : decode cX12_about 88 = .ok (.ireturn, 1) := by decide +kernel
theorem dJ9_max_7cf53_0 : decode cJ9_max_7cf53 0 = .ok (.iload_n 0, 1) := by decide +kernel
theorem dJ9_max_7cf53_1 : decode cJ9_max_7cf53 1 = .ok (.iload_n 1, 1) := by decide +kernel
theorem dJ9_max_7cf53_2 : decode cJ9_max_7cf53 2 = .ok (.if_icmp .lt 7, 3) := by decide +kernel
theorem dJ9_max_7cf53_5 : decode cJ9_max_7cf53 5 = .ok (.iload_n 0, 1) := by decide +kernel
theorem dJ9_max_7cf53_6 : decode cJ9_max_7cf53 6 = .ok (.goto 4, 3) := by decide +kernel
theorem dJ9_max_7cf53_9 : decode cJ9_max_7cf53 9 = .ok (.iload_n 1, 1) := by decide +kernel
theorem dJ9_max_7cf53_10 : decode cJ9_max_7cf53 10 = .ok (.ireturn, 1) := by decide +kernel
theorem dJ9_min_7cf53_0 : decode cJ9_min_7cf53 0 = .ok (.iload_n 0, 1) := by decide +kernel
theorem dJ9_min_7cf53_1 : decode cJ9_min_7cf53 1 = .ok (.iload_n 1, 1) := by decide +kernel
theorem dJ9_min_7cf53_2 : decode cJ9_min_7cf53 2 = .ok (.if_icmp .gt 7, 3) := by decide +kernel
theorem dJ9_min_7cf53_5 : decode cJ9_min_7cf53 5 = .ok (.iload_n 0, 1) := by decide +kernel
theorem dJ9_min_7cf53_6 : decode cJ9_min_7cf53 6 = .ok (.goto 4, 3) := by decide +kernel
theorem dJ9_min_7cf53_9 : decode cJ9_min_7cf53 9 = .ok (.iload_n 1, 1) := by decide +kernel
theorem dJ9_min_7cf53_10 : decode cJ9_min_7cf53 10 = .ok (.ireturn, 1) := by decide +kernel
theorem dJ0_length_8abf5_0 : decode cJ0_length_8abf5 0 = .ok (.aload_n 0, 1) := by decide +kernel
theorem dJ0_length_8abf5_1 : decode cJ0_length_8abf5 1 = .ok (.getfield 9, 3) := by decide +kernel
theorem dJ0_length_8abf5_4 : decode cJ0_length_8abf5 4 = .ok (.arraylength, 1) := by decide +kernel
theorem dJ0_length_8abf5_5 : decode cJ0_length_8abf5 5 = .ok (.aload_n 0, 1) := by decide +kernel
theorem dJ0_length_8abf5_6 : decode cJ0_length_8abf5 6 = .ok (.invokevirtual 335, 3) := by decide +kernel
theorem dJ0_length_8abf5_9 : decode cJ0_length_8abf5 9 = .ok (.ishr, 1) := by decide +kernel
theorem dJ0_length_8abf5_10 : decode cJ0_length_8abf5 10 = .ok (.ireturn, 1) := by decide +kernel
theorem dJ0_charAt_5068e_0 : decode cJ0_charAt_5068e 0 = .ok (.aload_n 0, 1) := by decide +kernel
theorem dJ0_charAt_5068e_1 : decode cJ0_charAt_5068e 1 = .ok (.invokevirtual 492, 3) := by decide +kernel
theorem dJ0_charAt_5068e_4 : decode cJ0_charAt_5068e 4 = .ok (.ifCond .eq 12, 3) := by decide +kernel
theorem dJ0_charAt_5068e_7 : decode cJ0_charAt_5068e 7 = .ok (.aload_n 0, 1) := by decide +kernel
theorem dJ0_charAt_5068e_8 : decode cJ0_charAt_5068e 8 = .ok (.getfield 9, 3) := by decide +kernel
theorem dJ0_charAt_5068e_11 : decode cJ0_charAt_5068e 11 = .ok (.iload_n 1, 1) := by decide +kernel
theorem dJ0_charAt_5068e_12 : decode cJ0_charAt_5068e 12 = .ok (.invokestatic 495, 3) := by decide +kernel
theorem dJ0_charAt_5068e_15 : decode cJ0_charAt_5068e 15 = .ok (.ireturn, 1) := by decide +kernel
theorem dJ0_charAt_5068e_16 : decode cJ0_charAt_5068e 16 = .ok (.aload_n 0, 1) := by decide +kernel
theorem dJ0_charAt_5068e_17 : decode cJ0_charAt_5068e 17 = .ok (.getfield 9, 3) := by decide +kernel
theorem dJ0_charAt_5068e_20 : decode cJ0_charAt_5068e 20 = .ok (.iload_n 1, 1) := by decide +kernel
theorem dJ0_charAt_5068e_21 : decode cJ0_charAt_5068e 21 = .ok (.invokestatic 498, 3) := by decide +kernel
theorem dJ0_charAt_5068e_24 : decode cJ0_charAt_5068e 24 = .ok (.ireturn, 1) := by decide +kernel
theorem dJ0_coder_7d493_0 : decode cJ0_coder_7d493 0 = .ok (.getstatic 38, 3) := by decide +kernel
theorem dJ0_coder_7d493_3 : decode cJ0_coder_7d493 3 = .ok (.ifCond .eq 10, 3) := by decide +kernel
theorem dJ0_coder_7d493_6 : decode cJ0_coder_7d493 6 = .ok (.aload_n 0, 1) := by decide +kernel
theorem dJ0_coder_7d493_7 : decode cJ0_coder_7d493 7 = .ok (.getfield 15, 3) := by decide +kernel
theorem dJ0_coder_7d493_10 : decode cJ0_coder_7d493 10 = .ok (.goto 4, 3) := by decide +kernel
theorem dJ0_coder_7d493_13 : decode cJ0_coder_7d493 13 = .ok (.iconst 1, 1) := by decide +kernel
theorem dJ0_coder_7d493_14 : decode cJ0_coder_7d493 14 = .ok (.ireturn, 1) := by decide +kernel
theorem dJ0_isLatin1_aae02_0 : decode cJ0_isLatin1_aae02 0 = .ok (.getstatic 38, 3) := by decide +kernel
theorem dJ0_isLatin1_aae02_3 : decode cJ0_isLatin1_aae02 3 = .ok (.ifCond .eq 14, 3) := by decide +kernel
theorem dJ0_isLatin1_aae02_6 : decode cJ0_isLatin1_aae02 6 = .ok (.aload_n 0, 1) := by decide +kernel
theorem dJ0_isLatin1_aae02_7 : decode cJ0_isLatin1_aae02 7 = .ok (.getfield 15, 3) := by decide +kernel
theorem dJ0_isLatin1_aae02_10 : decode cJ0_isLatin1_aae02 10 = .ok (.ifCond .ne 7, 3) := by decide +kernel
theorem dJ0_isLatin1_aae02_13 : decode cJ0_isLatin1_aae02 13 = .ok (.iconst 1, 1) := by decide +kernel
theorem dJ0_isLatin1_aae02_14 : decode cJ0_isLatin1_aae02 14 = .ok (.goto 4, 3) := by decide +kernel
theorem dJ0_isLatin1_aae02_17 : decode cJ0_isLatin1_aae02 17 = .ok (.iconst 0, 1) := by decide +kernel
theorem dJ0_isLatin1_aae02_18 : decode cJ0_isLatin1_aae02 18 = .ok (.ireturn, 1) := by decide +kernel
theorem dJ0_checkIndex_df160_0 : decode cJ0_checkIndex_df160 0 = .ok (.iload_n 0, 1) := by decide +kernel
theorem dJ0_checkIndex_df160_1 : decode cJ0_checkIndex_df160 1 = .ok (.iload_n 1, 1) := by decide +kernel
theorem dJ0_checkIndex_df160_2 : decode cJ0_checkIndex_df160 2 = .ok (.getstatic 1053, 3) := by decide +kernel
theorem dJ0_checkIndex_df160_5 : decode cJ0_checkIndex_df160 5 = .ok (.invokestatic 1059, 3) := by decide +kernel
theorem dJ0_checkIndex_df160_8 : decode cJ0_checkIndex_df160 8 = .ok (.pop, 1) := by decide +kernel
theorem dJ0_checkIndex_df160_9 : decode cJ0_checkIndex_df160 9 = .ok (.return_, 1) := by decide +kernel
theorem dJ1_charAt_3b067_0 : decode cJ1_charAt_3b067 0 = .ok (.iload_n 1, 1) := by decide +kernel
theorem dJ1_charAt_3b067_1 : decode cJ1_charAt_3b067 1 = .ok (.aload_n 0, 1) := by decide +kernel
theorem dJ1_charAt_3b067_2 : decode cJ1_charAt_3b067 2 = .ok (.arraylength, 1) := by decide +kernel
theorem dJ1_charAt_3b067_3 : decode cJ1_charAt_3b067 3 = .ok (.invokestatic 9, 3) := by decide +kernel
theorem dJ1_charAt_3b067_6 : decode cJ1_charAt_3b067 6 = .ok (.aload_n 0, 1) := by decide +kernel
theorem dJ1_charAt_3b067_7 : decode cJ1_charAt_3b067 7 = .ok (.iload_n 1, 1) := by decide +kernel
theorem dJ1_charAt_3b067_8 : decode cJ1_charAt_3b067 8 = .ok (.baload, 1) := by decide +kernel
theorem dJ1_charAt_3b067_9 : decode cJ1_charAt_3b067 9 = .ok (.sipush 255, 3) := by decide +kernel
theorem dJ1_charAt_3b067_12 : decode cJ1_charAt_3b067 12 = .ok (.iand, 1) := by decide +kernel
theorem dJ1_charAt_3b067_13 : decode cJ1_charAt_3b067 13 = .ok (.i2c, 1) := by decide +kernel
theorem dJ1_charAt_3b067_14 : decode cJ1_charAt_3b067 14 = .ok (.ireturn, 1) := by decide +kernel
theorem dJ2_getChar_3b067_0 : decode cJ2_getChar_3b067 0 = .ok (.getstatic 44, 3) := by decide +kernel
theorem dJ2_getChar_3b067_3 : decode cJ2_getChar_3b067 3 = .ok (.ifCond .ne 25, 3) := by decide +kernel
theorem dJ2_getChar_3b067_6 : decode cJ2_getChar_3b067 6 = .ok (.iload_n 1, 1) := by decide +kernel
theorem dJ2_getChar_3b067_7 : decode cJ2_getChar_3b067 7 = .ok (.ifCond .lt 11, 3) := by decide +kernel
theorem dJ2_getChar_3b067_10 : decode cJ2_getChar_3b067 10 = .ok (.iload_n 1, 1) := by decide +kernel
theorem dJ2_getChar_3b067_11 : decode cJ2_getChar_3b067 11 = .ok (.aload_n 0, 1) := by decide +kernel
theorem dJ2_getChar_3b067_12 : decode cJ2_getChar_3b067 12 = .ok (.invokestatic 48, 3) := by decide +kernel
theorem dJ2_getChar_3b067_15 : decode cJ2_getChar_3b067 15 = .ok (.if_icmp .lt 13, 3) := by decide +kernel
theorem dJ2_getChar_3b067_18 : decode cJ2_getChar_3b067 18 = .ok (.new 52, 3) := by decide +kernel
theorem dJ2_getChar_3b067_21 : decode cJ2_getChar_3b067 21 = .ok (.dup, 1) := by decide +kernel
theorem dJ2_getChar_3b067_22 : decode cJ2_getChar_3b067 22 = .ok (.ldc 54, 2) := by decide +kernel
theorem dJ2_getChar_3b067_24 : decode cJ2_getChar_3b067 24 = .ok (.invokespecial 56, 3) := by decide +kernel
theorem dJ2_getChar_3b067_27 : decode cJ2_getChar_3b067 27 = .ok (.athrow, 1) := by decide +kernel
theorem dJ2_getChar_3b067_28 : decode cJ2_getChar_3b067 28 = .ok (.iload_n 1, 1) := by decide +kernel
theorem dJ2_getChar_3b067_29 : decode cJ2_getChar_3b067 29 = .ok (.iconst 1, 1) := by decide +kernel
theorem dJ2_getChar_3b067_30 : decode cJ2_getChar_3b067 30 = .ok (.ishl, 1) := by decide +kernel
theorem dJ2_getChar_3b067_31 : decode cJ2_getChar_3b067 31 = .ok (.istore_n 1, 1) := by decide +kernel
theorem dJ2_getChar_3b067_32 : decode cJ2_getChar_3b067 32 = .ok (.aload_n 0, 1) := by decide +kernel
theorem dJ2_getChar_3b067_33 : decode cJ2_getChar_3b067 33 = .ok (.iload_n 1, 1) := by decide +kernel
theorem dJ2_getChar_3b067_34 : decode cJ2_getChar_3b067 34 = .ok (.iinc 1 1, 3) := by decide +kernel
theorem dJ2_getChar_3b067_37 : decode cJ2_getChar_3b067 37 = .ok (.baload, 1) := by decide +kernel
theorem dJ2_getChar_3b067_38 : decode cJ2_getChar_3b067 38 = .ok (.sipush 255, 3) := by decide +kernel
theorem dJ2_getChar_3b067_41 : decode cJ2_getChar_3b067 41 = .ok (.iand, 1) := by decide +kernel
theorem dJ2_getChar_3b067_42 : decode cJ2_getChar_3b067 42 = .ok (.getstatic 59, 3) := by decide +kernel
theorem dJ2_getChar_3b067_45 : decode cJ2_getChar_3b067 45 = .ok (.ishl, 1) := by decide +kernel
theorem dJ2_getChar_3b067_46 : decode cJ2_getChar_3b067 46 = .ok (.aload_n 0, 1) := by decide +kernel
theorem dJ2_getChar_3b067_47 : decode cJ2_getChar_3b067 47 = .ok (.iload_n 1, 1) := by decide +kernel
theorem dJ2_getChar_3b067_48 : decode cJ2_getChar_3b067 48 = .ok (.baload, 1) := by decide +kernel
theorem dJ2_getChar_3b067_49 : decode cJ2_getChar_3b067 49 = .ok (.sipush 255, 3) := by decide +kernel
theorem dJ2_getChar_3b067_52 : decode cJ2_getChar_3b067 52 = .ok (.iand, 1) := by decide +kernel
theorem dJ2_getChar_3b067_53 : decode cJ2_getChar_3b067 53 = .ok (.getstatic 63, 3) := by decide +kernel
theorem dJ2_getChar_3b067_56 : decode cJ2_getChar_3b067 56 = .ok (.ishl, 1) := by decide +kernel
theorem dJ2_getChar_3b067_57 : decode cJ2_getChar_3b067 57 = .ok (.ior, 1) := by decide +kernel
theorem dJ2_getChar_3b067_58 : decode cJ2_getChar_3b067 58 = .ok (.i2c, 1) := by decide +kernel
theorem dJ2_getChar_3b067_59 : decode cJ2_getChar_3b067 59 = .ok (.ireturn, 1) := by decide +kernel
theorem dJ2_length_9d52b_0 : decode cJ2_length_9d52b 0 = .ok (.aload_n 0, 1) := by decide +kernel
theorem dJ2_length_9d52b_1 : decode cJ2_length_9d52b 1 = .ok (.arraylength, 1) := by decide +kernel
theorem dJ2_length_9d52b_2 : decode cJ2_length_9d52b 2 = .ok (.iconst 1, 1) := by decide +kernel
theorem dJ2_length_9d52b_3 : decode cJ2_length_9d52b 3 = .ok (.ishr, 1) := by decide +kernel
theorem dJ2_length_9d52b_4 : decode cJ2_length_9d52b 4 = .ok (.ireturn, 1) := by decide +kernel
theorem dJ2_charAt_3b067_0 : decode cJ2_charAt_3b067 0 = .ok (.iload_n 1, 1) := by decide +kernel
theorem dJ2_charAt_3b067_1 : decode cJ2_charAt_3b067 1 = .ok (.aload_n 0, 1) := by decide +kernel
theorem dJ2_charAt_3b067_2 : decode cJ2_charAt_3b067 2 = .ok (.invokestatic 67, 3) := by decide +kernel
theorem dJ2_charAt_3b067_5 : decode cJ2_charAt_3b067 5 = .ok (.aload_n 0, 1) := by decide +kernel
theorem dJ2_charAt_3b067_6 : decode cJ2_charAt_3b067 6 = .ok (.iload_n 1, 1) := by decide +kernel
theorem dJ2_charAt_3b067_7 : decode cJ2_charAt_3b067 7 = .ok (.invokestatic 71, 3) := by decide +kernel
theorem dJ2_charAt_3b067_10 : decode cJ2_charAt_3b067 10 = .ok (.ireturn, 1) := by decide +kernel
theorem dJ2_checkIndex_2214a_0 : decode cJ2_checkIndex_2214a 0 = .ok (.iload_n 0, 1) := by decide +kernel
theorem dJ2_checkIndex_2214a_1 : decode cJ2_checkIndex_2214a 1 = .ok (.aload_n 1, 1) := by decide +kernel
theorem dJ2_checkIndex_2214a_2 : decode cJ2_checkIndex_2214a 2 = .ok (.invokestatic 48, 3) := by decide +kernel
theorem dJ2_checkIndex_2214a_5 : decode cJ2_checkIndex_2214a 5 = .ok (.invokestatic 414, 3) := by decide +kernel
theorem dJ2_checkIndex_2214a_8 : decode cJ2_checkIndex_2214a 8 = .ok (.return_, 1) := by decide +kernel
theorem dJ7_fill_53178_0 : decode cJ7_fill_53178 0 = .ok (.iconst 0, 1) := by decide +kernel
theorem dJ7_fill_53178_1 : decode cJ7_fill_53178 1 = .ok (.istore_n 2, 1) := by decide +kernel
theorem dJ7_fill_53178_2 : decode cJ7_fill_53178 2 = .ok (.aload_n 0, 1) := by decide +kernel
theorem dJ7_fill_53178_3 : decode cJ7_fill_53178 3 = .ok (.arraylength, 1) := by decide +kernel
theorem dJ7_fill_53178_4 : decode cJ7_fill_53178 4 = .ok (.istore_n 3, 1) := by decide +kernel
theorem dJ7_fill_53178_5 : decode cJ7_fill_53178 5 = .ok (.iload_n 2, 1) := by decide +kernel
theorem dJ7_fill_53178_6 : decode cJ7_fill_53178 6 = .ok (.iload_n 3, 1) := by decide +kernel
theorem dJ7_fill_53178_7 : decode cJ7_fill_53178 7 = .ok (.if_icmp .ge 13, 3) := by decide +kernel
theorem dJ7_fill_53178_10 : decode cJ7_fill_53178 10 = .ok (.aload_n 0, 1) := by decide +kernel
theorem dJ7_fill_53178_11 : decode cJ7_fill_53178 11 = .ok (.iload_n 2, 1) := by decide +kernel
theorem dJ7_fill_53178_12 : decode cJ7_fill_53178 12 = .ok (.iload_n 1, 1) := by decide +kernel
theorem dJ7_fill_53178_13 : decode cJ7_fill_53178 13 = .ok (.iastore, 1) := by decide +kernel
theorem dJ7_fill_53178_14 : decode cJ7_fill_53178 14 = .ok (.iinc 2 1, 3) := by decide +kernel
theorem dJ7_fill_53178_17 : decode cJ7_fill_53178 17 = .ok (.goto (-12), 3) := by decide +kernel
theorem dJ7_fill_53178_20 : decode cJ7_fill_53178 20 = .ok (.return_, 1) := by decide +kernel
theorem dJ3_checkIndex_8e157_0 : decode cJ3_checkIndex_8e157 0 = .ok (.iload_n 0, 1) := by decide +kernel
theorem dJ3_checkIndex_8e157_1 : decode cJ3_checkIndex_8e157 1 = .ok (.ifCond .lt 8, 3) := by decide +kernel
theorem dJ3_checkIndex_8e157_4 : decode cJ3_checkIndex_8e157 4 = .ok (.iload_n 0, 1) := by decide +kernel
theorem dJ3_checkIndex_8e157_5 : decode cJ3_checkIndex_8e157 5 = .ok (.iload_n 1, 1) := by decide +kernel
theorem dJ3_checkIndex_8e157_6 : decode cJ3_checkIndex_8e157 6 = .ok (.if_icmp .lt 10, 3) := by decide +kernel
theorem dJ3_checkIndex_8e157_9 : decode cJ3_checkIndex_8e157 9 = .ok (.aload_n 2, 1) := by decide +kernel
theorem dJ3_checkIndex_8e157_10 : decode cJ3_checkIndex_8e157 10 = .ok (.iload_n 0, 1) := by decide +kernel
theorem dJ3_checkIndex_8e157_11 : decode cJ3_checkIndex_8e157 11 = .ok (.iload_n 1, 1) := by decide +kernel
theorem dJ3_checkIndex_8e157_12 : decode cJ3_checkIndex_8e157 12 = .ok (.invokestatic 95, 3) := by decide +kernel
theorem dJ3_checkIndex_8e157_15 : decode cJ3_checkIndex_8e157 15 = .ok (.athrow, 1) := by decide +kernel
theorem dJ3_checkIndex_8e157_16 : decode cJ3_checkIndex_8e157 16 = .ok (.iload_n 0, 1) := by decide +kernel
theorem dJ3_checkIndex_8e157_17 : decode cJ3_checkIndex_8e157 17 = .ok (.ireturn, 1) := by decide +kernel
theorem dL_law_0 : decode cL_law 0 = .ok (.new 7, 3) := by decide +kernel
theorem dL_law_3 : decode cL_law 3 = .ok (.dup, 1) := by decide +kernel
theorem dL_law_4 : decode cL_law 4 = .ok (.invokespecial 9, 3) := by decide +kernel
theorem dL_law_7 : decode cL_law 7 = .ok (.astore_n 1, 1) := by decide +kernel
theorem dL_law_8 : decode cL_law 8 = .ok (.new 10, 3) := by decide +kernel
theorem dL_law_11 : decode cL_law 11 = .ok (.dup, 1) := by decide +kernel
theorem dL_law_12 : decode cL_law 12 = .ok (.invokespecial 12, 3) := by decide +kernel
theorem dL_law_15 : decode cL_law 15 = .ok (.astore_n 2, 1) := by decide +kernel
theorem dL_law_16 : decode cL_law 16 = .ok (.iconst 0, 1) := by decide +kernel
theorem dL_law_17 : decode cL_law 17 = .ok (.istore_n 3, 1) := by decide +kernel
theorem dL_law_18 : decode cL_law 18 = .ok (.iload_n 3, 1) := by decide +kernel
theorem dL_law_19 : decode cL_law 19 = .ok (.aload_n 0, 1) := by decide +kernel
theorem dL_law_20 : decode cL_law 20 = .ok (.arraylength, 1) := by decide +kernel
theorem dL_law_21 : decode cL_law 21 = .ok (.bipush 6, 2) := by decide +kernel
theorem dL_law_23 : decode cL_law 23 = .ok (.isub, 1) := by decide +kernel
theorem dL_law_24 : decode cL_law 24 = .ok (.if_icmp .gt 1041, 3) := by decide +kernel
theorem dL_law_27 : decode cL_law 27 = .ok (.aload_n 0, 1) := by decide +kernel
theorem dL_law_28 : decode cL_law 28 = .ok (.iload_n 3, 1) := by decide +kernel
theorem dL_law_29 : decode cL_law 29 = .ok (.iaload, 1) := by decide +kernel
theorem dL_law_30 : decode cL_law 30 = .ok (.bipush 31, 2) := by decide +kernel
theorem dL_law_32 : decode cL_law 32 = .ok (.iand, 1) := by decide +kernel
theorem dL_law_33 : decode cL_law 33 = .ok (.tableswitch 1026 0 26 #[123, 156, 205, 248, 281, 340, 403, 426, 439, 462, 505, 568, 581, 594, 617, 630, 673, 716, 749, 782, 795, 828, 851, 894, 927, 980, 1003], 123) := by decide +kernel
theorem dL_law_156 : decode cL_law 156 = .ok (.aload_n 1, 1) := by decide +kernel
theorem dL_law_157 : decode cL_law 157 = .ok (.aload_n 0, 1) := by decide +kernel
theorem dL_law_158 : decode cL_law 158 = .ok (.iload_n 3, 1) := by decide +kernel
theorem dL_law_159 : decode cL_law 159 = .ok (.iconst 1, 1) := by decide +kernel
theorem dL_law_160 : decode cL_law 160 = .ok (.iadd, 1) := by decide +kernel
theorem dL_law_161 : decode cL_law 161 = .ok (.iaload, 1) := by decide +kernel
theorem dL_law_162 : decode cL_law 162 = .ok (.aload_n 0, 1) := by decide +kernel
theorem dL_law_163 : decode cL_law 163 = .ok (.iload_n 3, 1) := by decide +kernel
theorem dL_law_164 : decode cL_law 164 = .ok (.iconst 2, 1) := by decide +kernel
theorem dL_law_165 : decode cL_law 165 = .ok (.iadd, 1) := by decide +kernel
theorem dL_law_166 : decode cL_law 166 = .ok (.iaload, 1) := by decide +kernel
theorem dL_law_167 : decode cL_law 167 = .ok (.invokevirtual 13, 3) := by decide +kernel
theorem dL_law_170 : decode cL_law 170 = .ok (.aload_n 2, 1) := by decide +kernel
theorem dL_law_171 : decode cL_law 171 = .ok (.aload_n 0, 1) := by decide +kernel
theorem dL_law_172 : decode cL_law 172 = .ok (.iload_n 3, 1) := by decide +kernel
theorem dL_law_173 : decode cL_law 173 = .ok (.iconst 1, 1) := by decide +kernel
theorem dL_law_174 : decode cL_law 174 = .ok (.iadd, 1) := by decide +kernel
theorem dL_law_175 : decode cL_law 175 = .ok (.iaload, 1) := by decide +kernel
theorem dL_law_176 : decode cL_law 176 = .ok (.aload_n 0, 1) := by decide +kernel
theorem dL_law_177 : decode cL_law 177 = .ok (.iload_n 3, 1) := by decide +kernel
theorem dL_law_178 : decode cL_law 178 = .ok (.iconst 2, 1) := by decide +kernel
theorem dL_law_179 : decode cL_law 179 = .ok (.iadd, 1) := by decide +kernel
theorem dL_law_180 : decode cL_law 180 = .ok (.iaload, 1) := by decide +kernel
theorem dL_law_181 : decode cL_law 181 = .ok (.invokevirtual 17, 3) := by decide +kernel
theorem dL_law_184 : decode cL_law 184 = .ok (.if_icmp .eq 875, 3) := by decide +kernel
theorem dL_law_187 : decode cL_law 187 = .ok (.iconst 0, 1) := by decide +kernel
theorem dL_law_188 : decode cL_law 188 = .ok (.ireturn, 1) := by decide +kernel
theorem dL_law_189 : decode cL_law 189 = .ok (.aload_n 1, 1) := by decide +kernel
theorem dL_law_190 : decode cL_law 190 = .ok (.aload_n 0, 1) := by decide +kernel
theorem dL_law_191 : decode cL_law 191 = .ok (.iload_n 3, 1) := by decide +kernel
theorem dL_law_192 : decode cL_law 192 = .ok (.iconst 1, 1) := by decide +kernel
theorem dL_law_193 : decode cL_law 193 = .ok (.iadd, 1) := by decide +kernel
theorem dL_law_194 : decode cL_law 194 = .ok (.iaload, 1) := by decide +kernel
theorem dL_law_195 : decode cL_law 195 = .ok (.aload_n 0, 1) := by decide +kernel
theorem dL_law_196 : decode cL_law 196 = .ok (.iload_n 3, 1) := by decide +kernel
theorem dL_law_197 : decode cL_law 197 = .ok (.iconst 2, 1) := by decide +kernel
theorem dL_law_198 : decode cL_law 198 = .ok (.iadd, 1) := by decide +kernel
theorem dL_law_199 : decode cL_law 199 = .ok (.iaload, 1) := by decide +kernel
theorem dL_law_200 : decode cL_law 200 = .ok (.ifCond .eq 7, 3) := by decide +kernel
theorem dL_law_203 : decode cL_law 203 = .ok (.iconst 1, 1) := by decide +kernel
theorem dL_law_204 : decode cL_law 204 = .ok (.goto 4, 3) := by decide +kernel
theorem dL_law_207 : decode cL_law 207 = .ok (.iconst 0, 1) := by decide +kernel
theorem dL_law_208 : decode cL_law 208 = .ok (.invokevirtual 18, 3) := by decide +kernel
theorem dL_law_211 : decode cL_law 211 = .ok (.aload_n 2, 1) := by decide +kernel
theorem dL_law_212 : decode cL_law 212 = .ok (.aload_n 0, 1) := by decide +kernel
theorem dL_law_213 : decode cL_law 213 = .ok (.iload_n 3, 1) := by decide +kernel
theorem dL_law_214 : decode cL_law 214 = .ok (.iconst 1, 1) := by decide +kernel
theorem dL_law_215 : decode cL_law 215 = .ok (.iadd, 1) := by decide +kernel
theorem dL_law_216 : decode cL_law 216 = .ok (.iaload, 1) := by decide +kernel
theorem dL_law_217 : decode cL_law 217 = .ok (.aload_n 0, 1) := by decide +kernel
theorem dL_law_218 : decode cL_law 218 = .ok (.iload_n 3, 1) := by decide +kernel
theorem dL_law_219 : decode cL_law 219 = .ok (.iconst 2, 1) := by decide +kernel
theorem dL_law_220 : decode cL_law 220 = .ok (.iadd, 1) := by decide +kernel
theorem dL_law_221 : decode cL_law 221 = .ok (.iaload, 1) := by decide +kernel
theorem dL_law_222 : decode cL_law 222 = .ok (.ifCond .eq 7, 3) := by decide +kernel
theorem dL_law_225 : decode cL_law 225 = .ok (.iconst 1, 1) := by decide +kernel
theorem dL_law_226 : decode cL_law 226 = .ok (.goto 4, 3) := by decide +kernel
theorem dL_law_229 : decode cL_law 229 = .ok (.iconst 0, 1) := by decide +kernel
theorem dL_law_230 : decode cL_law 230 = .ok (.invokevirtual 22, 3) := by decide +kernel
theorem dL_law_233 : decode cL_law 233 = .ok (.if_icmp .eq 826, 3) := by decide +kernel
theorem dL_law_236 : decode cL_law 236 = .ok (.iconst 0, 1) := by decide +kernel
theorem dL_law_237 : decode cL_law 237 = .ok (.ireturn, 1) := by decide +kernel
theorem dL_law_238 : decode cL_law 238 = .ok (.aload_n 1, 1) := by decide +kernel
theorem dL_law_239 : decode cL_law 239 = .ok (.aload_n 0, 1) := by decide +kernel
theorem dL_law_240 : decode cL_law 240 = .ok (.iload_n 3, 1) := by decide +kernel
theorem dL_law_241 : decode cL_law 241 = .ok (.iconst 1, 1) := by decide +kernel
theorem dL_law_242 : decode cL_law 242 = .ok (.iadd, 1) := by decide +kernel
theorem dL_law_243 : decode cL_law 243 = .ok (.iaload, 1) := by decide +kernel
theorem dL_law_244 : decode cL_law 244 = .ok (.aload_n 0, 1) := by decide +kernel
theorem dL_law_245 : decode cL_law 245 = .ok (.iload_n 3, 1) := by decide +kernel
theorem dL_law_246 : decode cL_law 246 = .ok (.iconst 2, 1) := by decide +kernel
theorem dL_law_247 : decode cL_law 247 = .ok (.iadd, 1) := by decide +kernel
theorem dL_law_248 : decode cL_law 248 = .ok (.iaload, 1) := by decide +kernel
theorem dL_law_249 : decode cL_law 249 = .ok (.aload_n 0, 1) := by decide +kernel
theorem dL_law_250 : decode cL_law 250 = .ok (.iload_n 3, 1) := by decide +kernel
theorem dL_law_251 : decode cL_law 251 = .ok (.iconst 3, 1) := by decide +kernel
theorem dL_law_252 : decode cL_law 252 = .ok (.iadd, 1) := by decide +kernel
theorem dL_law_253 : decode cL_law 253 = .ok (.iaload, 1) := by decide +kernel
theorem dL_law_254 : decode cL_law 254 = .ok (.invokevirtual 23, 3) := by decide +kernel
theorem dL_law_257 : decode cL_law 257 = .ok (.aload_n 2, 1) := by decide +kernel
theorem dL_law_258 : decode cL_law 258 = .ok (.aload_n 0, 1) := by decide +kernel
theorem dL_law_259 : decode cL_law 259 = .ok (.iload_n 3, 1) := by decide +kernel
theorem dL_law_260 : decode cL_law 260 = .ok (.iconst 1, 1) := by decide +kernel
theorem dL_law_261 : decode cL_law 261 = .ok (.iadd, 1) := by decide +kernel
theorem dL_law_262 : decode cL_law 262 = .ok (.iaload, 1) := by decide +kernel
theorem dL_law_263 : decode cL_law 263 = .ok (.aload_n 0, 1) := by decide +kernel
theorem dL_law_264 : decode cL_law 264 = .ok (.iload_n 3, 1) := by decide +kernel
theorem dL_law_265 : decode cL_law 265 = .ok (.iconst 2, 1) := by decide +kernel
theorem dL_law_266 : decode cL_law 266 = .ok (.iadd, 1) := by decide +kernel
theorem dL_law_267 : decode cL_law 267 = .ok (.iaload, 1) := by decide +kernel
theorem dL_law_268 : decode cL_law 268 = .ok (.aload_n 0, 1) := by decide +kernel
theorem dL_law_269 : decode cL_law 269 = .ok (.iload_n 3, 1) := by decide +kernel
theorem dL_law_270 : decode cL_law 270 = .ok (.iconst 3, 1) := by decide +kernel
theorem dL_law_271 : decode cL_law 271 = .ok (.iadd, 1) := by decide +kernel
theorem dL_law_272 : decode cL_law 272 = .ok (.iaload, 1) := by decide +kernel
theorem dL_law_273 : decode cL_law 273 = .ok (.invokevirtual 27, 3) := by decide +kernel
theorem dL_law_276 : decode cL_law 276 = .ok (.if_icmp .eq 783, 3) := by decide +kernel
theorem dL_law_279 : decode cL_law 279 = .ok (.iconst 0, 1) := by decide +kernel
theorem dL_law_280 : decode cL_law 280 = .ok (.ireturn, 1) := by decide +kernel
theorem dL_law_281 : decode cL_law 281 = .ok (.aload_n 1, 1) := by decide +kernel
theorem dL_law_282 : decode cL_law 282 = .ok (.aload_n 0, 1) := by decide +kernel
theorem dL_law_283 : decode cL_law 283 = .ok (.iload_n 3, 1) := by decide +kernel
theorem dL_law_284 : decode cL_law 284 = .ok (.iconst 1, 1) := by decide +kernel
theorem dL_law_285 : decode cL_law 285 = .ok (.iadd, 1) := by decide +kernel
theorem dL_law_286 : decode cL_law 286 = .ok (.iaload, 1) := by decide +kernel
theorem dL_law_287 : decode cL_law 287 = .ok (.aload_n 0, 1) := by decide +kernel
theorem dL_law_288 : decode cL_law 288 = .ok (.iload_n 3, 1) := by decide +kernel
theorem dL_law_289 : decode cL_law 289 = .ok (.iconst 2, 1) := by decide +kernel
theorem dL_law_290 : decode cL_law 290 = .ok (.iadd, 1) := by decide +kernel
theorem dL_law_291 : decode cL_law 291 = .ok (.iaload, 1) := by decide +kernel
theorem dL_law_292 : decode cL_law 292 = .ok (.invokevirtual 28, 3) := by decide +kernel
theorem dL_law_295 : decode cL_law 295 = .ok (.aload_n 2, 1) := by decide +kernel
theorem dL_law_296 : decode cL_law 296 = .ok (.aload_n 0, 1) := by decide +kernel
theorem dL_law_297 : decode cL_law 297 = .ok (.iload_n 3, 1) := by decide +kernel
theorem dL_law_298 : decode cL_law 298 = .ok (.iconst 1, 1) := by decide +kernel
theorem dL_law_299 : decode cL_law 299 = .ok (.iadd, 1) := by decide +kernel
theorem dL_law_300 : decode cL_law 300 = .ok (.iaload, 1) := by decide +kernel
theorem dL_law_301 : decode cL_law 301 = .ok (.aload_n 0, 1) := by decide +kernel
theorem dL_law_302 : decode cL_law 302 = .ok (.iload_n 3, 1) := by decide +kernel
theorem dL_law_303 : decode cL_law 303 = .ok (.iconst 2, 1) := by decide +kernel
theorem dL_law_304 : decode cL_law 304 = .ok (.iadd, 1) := by decide +kernel
theorem dL_law_305 : decode cL_law 305 = .ok (.iaload, 1) := by decide +kernel
theorem dL_law_306 : decode cL_law 306 = .ok (.invokevirtual 32, 3) := by decide +kernel
theorem dL_law_309 : decode cL_law 309 = .ok (.if_icmp .eq 750, 3) := by decide +kernel
theorem dL_law_312 : decode cL_law 312 = .ok (.iconst 0, 1) := by decide +kernel
theorem dL_law_313 : decode cL_law 313 = .ok (.ireturn, 1) := by decide +kernel
theorem dL_law_314 : decode cL_law 314 = .ok (.aload_n 1, 1) := by decide +kernel
theorem dL_law_315 : decode cL_law 315 = .ok (.aload_n 0, 1) := by decide +kernel
theorem dL_law_316 : decode cL_law 316 = .ok (.iload_n 3, 1) := by decide +kernel
theorem dL_law_317 : decode cL_law 317 = .ok (.iconst 1, 1) := by decide +kernel
theorem dL_law_318 : decode cL_law 318 = .ok (.iadd, 1) := by decide +kernel
theorem dL_law_319 : decode cL_law 319 = .ok (.iaload, 1) := by decide +kernel
theorem dL_law_320 : decode cL_law 320 = .ok (.aload_n 0, 1) := by decide +kernel
theorem dL_law_321 : decode cL_law 321 = .ok (.iload_n 3, 1) := by decide +kernel
theorem dL_law_322 : decode cL_law 322 = .ok (.iconst 2, 1) := by decide +kernel
theorem dL_law_323 : decode cL_law 323 = .ok (.iadd, 1) := by decide +kernel
theorem dL_law_324 : decode cL_law 324 = .ok (.iaload, 1) := by decide +kernel
theorem dL_law_325 : decode cL_law 325 = .ok (.aload_n 0, 1) := by decide +kernel
theorem dL_law_326 : decode cL_law 326 = .ok (.iload_n 3, 1) := by decide +kernel
theorem dL_law_327 : decode cL_law 327 = .ok (.iconst 3, 1) := by decide +kernel
theorem dL_law_328 : decode cL_law 328 = .ok (.iadd, 1) := by decide +kernel
theorem dL_law_329 : decode cL_law 329 = .ok (.iaload, 1) := by decide +kernel
theorem dL_law_330 : decode cL_law 330 = .ok (.ifCond .eq 7, 3) := by decide +kernel
theorem dL_law_333 : decode cL_law 333 = .ok (.iconst 1, 1) := by decide +kernel
theorem dL_law_334 : decode cL_law 334 = .ok (.goto 4, 3) := by decide +kernel
theorem dL_law_337 : decode cL_law 337 = .ok (.iconst 0, 1) := by decide +kernel
theorem dL_law_338 : decode cL_law 338 = .ok (.invokevirtual 33, 3) := by decide +kernel
theorem dL_law_341 : decode cL_law 341 = .ok (.aload_n 2, 1) := by decide +kernel
theorem dL_law_342 : decode cL_law 342 = .ok (.aload_n 0, 1) := by decide +kernel
theorem dL_law_343 : decode cL_law 343 = .ok (.iload_n 3, 1) := by decide +kernel
theorem dL_law_344 : decode cL_law 344 = .ok (.iconst 1, 1) := by decide +kernel
theorem dL_law_345 : decode cL_law 345 = .ok (.iadd, 1) := by decide +kernel
theorem dL_law_346 : decode cL_law 346 = .ok (.iaload, 1) := by decide +kernel
theorem dL_law_347 : decode cL_law 347 = .ok (.aload_n 0, 1) := by decide +kernel
theorem dL_law_348 : decode cL_law 348 = .ok (.iload_n 3, 1) := by decide +kernel
theorem dL_law_349 : decode cL_law 349 = .ok (.iconst 2, 1) := by decide +kernel
theorem dL_law_350 : decode cL_law 350 = .ok (.iadd, 1) := by decide +kernel
theorem dL_law_351 : decode cL_law 351 = .ok (.iaload, 1) := by decide +kernel
theorem dL_law_352 : decode cL_law 352 = .ok (.aload_n 0, 1) := by decide +kernel
theorem dL_law_353 : decode cL_law 353 = .ok (.iload_n 3, 1) := by decide +kernel
theorem dL_law_354 : decode cL_law 354 = .ok (.iconst 3, 1) := by decide +kernel
theorem dL_law_355 : decode cL_law 355 = .ok (.iadd, 1) := by decide +kernel
theorem dL_law_356 : decode cL_law 356 = .ok (.iaload, 1) := by decide +kernel
theorem dL_law_357 : decode cL_law 357 = .ok (.ifCond .eq 7, 3) := by decide +kernel
theorem dL_law_360 : decode cL_law 360 = .ok (.iconst 1, 1) := by decide +kernel
theorem dL_law_361 : decode cL_law 361 = .ok (.goto 4, 3) := by decide +kernel
theorem dL_law_364 : decode cL_law 364 = .ok (.iconst 0, 1) := by decide +kernel
theorem dL_law_365 : decode cL_law 365 = .ok (.invokevirtual 37, 3) := by decide +kernel
theorem dL_law_368 : decode cL_law 368 = .ok (.if_icmp .eq 691, 3) := by decide +kernel
theorem dL_law_371 : decode cL_law 371 = .ok (.iconst 0, 1) := by decide +kernel
theorem dL_law_372 : decode cL_law 372 = .ok (.ireturn, 1) := by decide +kernel
theorem dL_law_373 : decode cL_law 373 = .ok (.aload_n 1, 1) := by decide +kernel
theorem dL_law_374 : decode cL_law 374 = .ok (.aload_n 0, 1) := by decide +kernel
theorem dL_law_375 : decode cL_law 375 = .ok (.iload_n 3, 1) := by decide +kernel
theorem dL_law_376 : decode cL_law 376 = .ok (.iconst 1, 1) := by decide +kernel
theorem dL_law_377 : decode cL_law 377 = .ok (.iadd, 1) := by decide +kernel
theorem dL_law_378 : decode cL_law 378 = .ok (.iaload, 1) := by decide +kernel
theorem dL_law_379 : decode cL_law 379 = .ok (.aload_n 0, 1) := by decide +kernel
theorem dL_law_380 : decode cL_law 380 = .ok (.iload_n 3, 1) := by decide +kernel
theorem dL_law_381 : decode cL_law 381 = .ok (.iconst 2, 1) := by decide +kernel
theorem dL_law_382 : decode cL_law 382 = .ok (.iadd, 1) := by decide +kernel
theorem dL_law_383 : decode cL_law 383 = .ok (.iaload, 1) := by decide +kernel
theorem dL_law_384 : decode cL_law 384 = .ok (.aload_n 0, 1) := by decide +kernel
theorem dL_law_385 : decode cL_law 385 = .ok (.iload_n 3, 1) := by decide +kernel
theorem dL_law_386 : decode cL_law 386 = .ok (.iconst 3, 1) := by decide +kernel
theorem dL_law_387 : decode cL_law 387 = .ok (.iadd, 1) := by decide +kernel
theorem dL_law_388 : decode cL_law 388 = .ok (.iaload, 1) := by decide +kernel
theorem dL_law_389 : decode cL_law 389 = .ok (.aload_n 0, 1) := by decide +kernel
theorem dL_law_390 : decode cL_law 390 = .ok (.iload_n 3, 1) := by decide +kernel
theorem dL_law_391 : decode cL_law 391 = .ok (.iconst 4, 1) := by decide +kernel
theorem dL_law_392 : decode cL_law 392 = .ok (.iadd, 1) := by decide +kernel
theorem dL_law_393 : decode cL_law 393 = .ok (.iaload, 1) := by decide +kernel
theorem dL_law_394 : decode cL_law 394 = .ok (.aload_n 0, 1) := by decide +kernel
theorem dL_law_395 : decode cL_law 395 = .ok (.iload_n 3, 1) := by decide +kernel
theorem dL_law_396 : decode cL_law 396 = .ok (.iconst 5, 1) := by decide +kernel
theorem dL_law_397 : decode cL_law 397 = .ok (.iadd, 1) := by decide +kernel
theorem dL_law_398 : decode cL_law 398 = .ok (.iaload, 1) := by decide +kernel
theorem dL_law_399 : decode cL_law 399 = .ok (.invokevirtual 38, 3) := by decide +kernel
theorem dL_law_402 : decode cL_law 402 = .ok (.aload_n 2, 1) := by decide +kernel
theorem dL_law_403 : decode cL_law 403 = .ok (.aload_n 0, 1) := by decide +kernel
theorem dL_law_404 : decode cL_law 404 = .ok (.iload_n 3, 1) := by decide +kernel
theorem dL_law_405 : decode cL_law 405 = .ok (.iconst 1, 1) := by decide +kernel
theorem dL_law_406 : decode cL_law 406 = .ok (.iadd, 1) := by decide +kernel
theorem dL_law_407 : decode cL_law 407 = .ok (.iaload, 1) := by decide +kernel
theorem dL_law_408 : decode cL_law 408 = .ok (.aload_n 0, 1) := by decide +kernel
theorem dL_law_409 : decode cL_law 409 = .ok (.iload_n 3, 1) := by decide +kernel
theorem dL_law_410 : decode cL_law 410 = .ok (.iconst 2, 1) := by decide +kernel
theorem dL_law_411 : decode cL_law 411 = .ok (.iadd, 1) := by decide +kernel
theorem dL_law_412 : decode cL_law 412 = .ok (.iaload, 1) := by decide +kernel
theorem dL_law_413 : decode cL_law 413 = .ok (.aload_n 0, 1) := by decide +kernel
theorem dL_law_414 : decode cL_law 414 = .ok (.iload_n 3, 1) := by decide +kernel
theorem dL_law_415 : decode cL_law 415 = .ok (.iconst 3, 1) := by decide +kernel
theorem dL_law_416 : decode cL_law 416 = .ok (.iadd, 1) := by decide +kernel
theorem dL_law_417 : decode cL_law 417 = .ok (.iaload, 1) := by decide +kernel
theorem dL_law_418 : decode cL_law 418 = .ok (.aload_n 0, 1) := by decide +kernel
theorem dL_law_419 : decode cL_law 419 = .ok (.iload_n 3, 1) := by decide +kernel
theorem dL_law_420 : decode cL_law 420 = .ok (.iconst 4, 1) := by decide +kernel
theorem dL_law_421 : decode cL_law 421 = .ok (.iadd, 1) := by decide +kernel
theorem dL_law_422 : decode cL_law 422 = .ok (.iaload, 1) := by decide +kernel
theorem dL_law_423 : decode cL_law 423 = .ok (.aload_n 0, 1) := by decide +kernel
theorem dL_law_424 : decode cL_law 424 = .ok (.iload_n 3, 1) := by decide +kernel
theorem dL_law_425 : decode cL_law 425 = .ok (.iconst 5, 1) := by decide +kernel
theorem dL_law_426 : decode cL_law 426 = .ok (.iadd, 1) := by decide +kernel
theorem dL_law_427 : decode cL_law 427 = .ok (.iaload, 1) := by decide +kernel
theorem dL_law_428 : decode cL_law 428 = .ok (.invokevirtual 42, 3) := by decide +kernel
theorem dL_law_431 : decode cL_law 431 = .ok (.if_icmp .eq 628, 3) := by decide +kernel
theorem dL_law_434 : decode cL_law 434 = .ok (.iconst 0, 1) := by decide +kernel
theorem dL_law_435 : decode cL_law 435 = .ok (.ireturn, 1) := by decide +kernel
theorem dL_law_436 : decode cL_law 436 = .ok (.aload_n 1, 1) := by decide +kernel
theorem dL_law_437 : decode cL_law 437 = .ok (.aload_n 0, 1) := by decide +kernel
theorem dL_law_438 : decode cL_law 438 = .ok (.iload_n 3, 1) := by decide +kernel
theorem dL_law_439 : decode cL_law 439 = .ok (.iconst 1, 1) := by decide +kernel
theorem dL_law_440 : decode cL_law 440 = .ok (.iadd, 1) := by decide +kernel
theorem dL_law_441 : decode cL_law 441 = .ok (.iaload, 1) := by decide +kernel
theorem dL_law_442 : decode cL_law 442 = .ok (.invokevirtual 43, 3) := by decide +kernel
theorem dL_law_445 : decode cL_law 445 = .ok (.aload_n 2, 1) := by decide +kernel
theorem dL_law_446 : decode cL_law 446 = .ok (.aload_n 0, 1) := by decide +kernel
theorem dL_law_447 : decode cL_law 447 = .ok (.iload_n 3, 1) := by decide +kernel
theorem dL_law_448 : decode cL_law 448 = .ok (.iconst 1, 1) := by decide +kernel
theorem dL_law_449 : decode cL_law 449 = .ok (.iadd, 1) := by decide +kernel
theorem dL_law_450 : decode cL_law 450 = .ok (.iaload, 1) := by decide +kernel
theorem dL_law_451 : decode cL_law 451 = .ok (.invokevirtual 47, 3) := by decide +kernel
theorem dL_law_454 : decode cL_law 454 = .ok (.if_icmp .eq 605, 3) := by decide +kernel
theorem dL_law_457 : decode cL_law 457 = .ok (.iconst 0, 1) := by decide +kernel
theorem dL_law_458 : decode cL_law 458 = .ok (.ireturn, 1) := by decide +kernel
theorem dL_law_459 : decode cL_law 459 = .ok (.aload_n 1, 1) := by decide +kernel
theorem dL_law_460 : decode cL_law 460 = .ok (.invokevirtual 48, 3) := by decide +kernel
theorem dL_law_463 : decode cL_law 463 = .ok (.aload_n 2, 1) := by decide +kernel
theorem dL_law_464 : decode cL_law 464 = .ok (.invokevirtual 52, 3) := by decide +kernel
theorem dL_law_467 : decode cL_law 467 = .ok (.if_icmp .eq 592, 3) := by decide +kernel
theorem dL_law_470 : decode cL_law 470 = .ok (.iconst 0, 1) := by decide +kernel
theorem dL_law_471 : decode cL_law 471 = .ok (.ireturn, 1) := by decide +kernel
theorem dL_law_472 : decode cL_law 472 = .ok (.aload_n 1, 1) := by decide +kernel
theorem dL_law_473 : decode cL_law 473 = .ok (.aload_n 0, 1) := by decide +kernel
theorem dL_law_474 : decode cL_law 474 = .ok (.iload_n 3, 1) := by decide +kernel
theorem dL_law_475 : decode cL_law 475 = .ok (.iconst 1, 1) := by decide +kernel
theorem dL_law_476 : decode cL_law 476 = .ok (.iadd, 1) := by decide +kernel
theorem dL_law_477 : decode cL_law 477 = .ok (.iaload, 1) := by decide +kernel
theorem dL_law_478 : decode cL_law 478 = .ok (.invokevirtual 53, 3) := by decide +kernel
theorem dL_law_481 : decode cL_law 481 = .ok (.aload_n 2, 1) := by decide +kernel
theorem dL_law_482 : decode cL_law 482 = .ok (.aload_n 0, 1) := by decide +kernel
theorem dL_law_483 : decode cL_law 483 = .ok (.iload_n 3, 1) := by decide +kernel
theorem dL_law_484 : decode cL_law 484 = .ok (.iconst 1, 1) := by decide +kernel
theorem dL_law_485 : decode cL_law 485 = .ok (.iadd, 1) := by decide +kernel
theorem dL_law_486 : decode cL_law 486 = .ok (.iaload, 1) := by decide +kernel
theorem dL_law_487 : decode cL_law 487 = .ok (.invokevirtual 56, 3) := by decide +kernel
theorem dL_law_490 : decode cL_law 490 = .ok (.if_icmp .eq 569, 3) := by decide +kernel
theorem dL_law_493 : decode cL_law 493 = .ok (.iconst 0, 1) := by decide +kernel
theorem dL_law_494 : decode cL_law 494 = .ok (.ireturn, 1) := by decide +kernel
theorem dL_law_495 : decode cL_law 495 = .ok (.aload_n 1, 1) := by decide +kernel
theorem dL_law_496 : decode cL_law 496 = .ok (.aload_n 0, 1) := by decide +kernel
theorem dL_law_497 : decode cL_law 497 = .ok (.iload_n 3, 1) := by decide +kernel
theorem dL_law_498 : decode cL_law 498 = .ok (.iconst 1, 1) := by decide +kernel
theorem dL_law_499 : decode cL_law 499 = .ok (.iadd, 1) := by decide +kernel
theorem dL_law_500 : decode cL_law 500 = .ok (.iaload, 1) := by decide +kernel
theorem dL_law_501 : decode cL_law 501 = .ok (.aload_n 0, 1) := by decide +kernel
theorem dL_law_502 : decode cL_law 502 = .ok (.iload_n 3, 1) := by decide +kernel
theorem dL_law_503 : decode cL_law 503 = .ok (.iconst 2, 1) := by decide +kernel
theorem dL_law_504 : decode cL_law 504 = .ok (.iadd, 1) := by decide +kernel
theorem dL_law_505 : decode cL_law 505 = .ok (.iaload, 1) := by decide +kernel
theorem dL_law_506 : decode cL_law 506 = .ok (.aload_n 0, 1) := by decide +kernel
theorem dL_law_507 : decode cL_law 507 = .ok (.iload_n 3, 1) := by decide +kernel
theorem dL_law_508 : decode cL_law 508 = .ok (.iconst 3, 1) := by decide +kernel
theorem dL_law_509 : decode cL_law 509 = .ok (.iadd, 1) := by decide +kernel
theorem dL_law_510 : decode cL_law 510 = .ok (.iaload, 1) := by decide +kernel
theorem dL_law_511 : decode cL_law 511 = .ok (.invokevirtual 57, 3) := by decide +kernel
theorem dL_law_514 : decode cL_law 514 = .ok (.aload_n 2, 1) := by decide +kernel
theorem dL_law_515 : decode cL_law 515 = .ok (.aload_n 0, 1) := by decide +kernel
theorem dL_law_516 : decode cL_law 516 = .ok (.iload_n 3, 1) := by decide +kernel
theorem dL_law_517 : decode cL_law 517 = .ok (.iconst 1, 1) := by decide +kernel
theorem dL_law_518 : decode cL_law 518 = .ok (.iadd, 1) := by decide +kernel
theorem dL_law_519 : decode cL_law 519 = .ok (.iaload, 1) := by decide +kernel
theorem dL_law_520 : decode cL_law 520 = .ok (.aload_n 0, 1) := by decide +kernel
theorem dL_law_521 : decode cL_law 521 = .ok (.iload_n 3, 1) := by decide +kernel
theorem dL_law_522 : decode cL_law 522 = .ok (.iconst 2, 1) := by decide +kernel
theorem dL_law_523 : decode cL_law 523 = .ok (.iadd, 1) := by decide +kernel
theorem dL_law_524 : decode cL_law 524 = .ok (.iaload, 1) := by decide +kernel
theorem dL_law_525 : decode cL_law 525 = .ok (.aload_n 0, 1) := by decide +kernel
theorem dL_law_526 : decode cL_law 526 = .ok (.iload_n 3, 1) := by decide +kernel
theorem dL_law_527 : decode cL_law 527 = .ok (.iconst 3, 1) := by decide +kernel
theorem dL_law_528 : decode cL_law 528 = .ok (.iadd, 1) := by decide +kernel
theorem dL_law_529 : decode cL_law 529 = .ok (.iaload, 1) := by decide +kernel
theorem dL_law_530 : decode cL_law 530 = .ok (.invokevirtual 60, 3) := by decide +kernel
theorem dL_law_533 : decode cL_law 533 = .ok (.if_icmp .eq 526, 3) := by decide +kernel
theorem dL_law_536 : decode cL_law 536 = .ok (.iconst 0, 1) := by decide +kernel
theorem dL_law_537 : decode cL_law 537 = .ok (.ireturn, 1) := by decide +kernel
theorem dL_law_538 : decode cL_law 538 = .ok (.aload_n 1, 1) := by decide +kernel
theorem dL_law_539 : decode cL_law 539 = .ok (.aload_n 0, 1) := by decide +kernel
theorem dL_law_540 : decode cL_law 540 = .ok (.iload_n 3, 1) := by decide +kernel
theorem dL_law_541 : decode cL_law 541 = .ok (.iconst 1, 1) := by decide +kernel
theorem dL_law_542 : decode cL_law 542 = .ok (.iadd, 1) := by decide +kernel
theorem dL_law_543 : decode cL_law 543 = .ok (.iaload, 1) := by decide +kernel
theorem dL_law_544 : decode cL_law 544 = .ok (.aload_n 0, 1) := by decide +kernel
theorem dL_law_545 : decode cL_law 545 = .ok (.iload_n 3, 1) := by decide +kernel
theorem dL_law_546 : decode cL_law 546 = .ok (.iconst 2, 1) := by decide +kernel
theorem dL_law_547 : decode cL_law 547 = .ok (.iadd, 1) := by decide +kernel
theorem dL_law_548 : decode cL_law 548 = .ok (.iaload, 1) := by decide +kernel
theorem dL_law_549 : decode cL_law 549 = .ok (.aload_n 0, 1) := by decide +kernel
theorem dL_law_550 : decode cL_law 550 = .ok (.iload_n 3, 1) := by decide +kernel
theorem dL_law_551 : decode cL_law 551 = .ok (.iconst 3, 1) := by decide +kernel
theorem dL_law_552 : decode cL_law 552 = .ok (.iadd, 1) := by decide +kernel
theorem dL_law_553 : decode cL_law 553 = .ok (.iaload, 1) := by decide +kernel
theorem dL_law_554 : decode cL_law 554 = .ok (.aload_n 0, 1) := by decide +kernel
theorem dL_law_555 : decode cL_law 555 = .ok (.iload_n 3, 1) := by decide +kernel
theorem dL_law_556 : decode cL_law 556 = .ok (.iconst 4, 1) := by decide +kernel
theorem dL_law_557 : decode cL_law 557 = .ok (.iadd, 1) := by decide +kernel
theorem dL_law_558 : decode cL_law 558 = .ok (.iaload, 1) := by decide +kernel
theorem dL_law_559 : decode cL_law 559 = .ok (.aload_n 0, 1) := by decide +kernel
theorem dL_law_560 : decode cL_law 560 = .ok (.iload_n 3, 1) := by decide +kernel
theorem dL_law_561 : decode cL_law 561 = .ok (.iconst 5, 1) := by decide +kernel
theorem dL_law_562 : decode cL_law 562 = .ok (.iadd, 1) := by decide +kernel
theorem dL_law_563 : decode cL_law 563 = .ok (.iaload, 1) := by decide +kernel
theorem dL_law_564 : decode cL_law 564 = .ok (.invokevirtual 61, 3) := by decide +kernel
theorem dL_law_567 : decode cL_law 567 = .ok (.aload_n 2, 1) := by decide +kernel
theorem dL_law_568 : decode cL_law 568 = .ok (.aload_n 0, 1) := by decide +kernel
theorem dL_law_569 : decode cL_law 569 = .ok (.iload_n 3, 1) := by decide +kernel
theorem dL_law_570 : decode cL_law 570 = .ok (.iconst 1, 1) := by decide +kernel
theorem dL_law_571 : decode cL_law 571 = .ok (.iadd, 1) := by decide +kernel
theorem dL_law_572 : decode cL_law 572 = .ok (.iaload, 1) := by decide +kernel
theorem dL_law_573 : decode cL_law 573 = .ok (.aload_n 0, 1) := by decide +kernel
theorem dL_law_574 : decode cL_law 574 = .ok (.iload_n 3, 1) := by decide +kernel
theorem dL_law_575 : decode cL_law 575 = .ok (.iconst 2, 1) := by decide +kernel
theorem dL_law_576 : decode cL_law 576 = .ok (.iadd, 1) := by decide +kernel
theorem dL_law_577 : decode cL_law 577 = .ok (.iaload, 1) := by decide +kernel
theorem dL_law_578 : decode cL_law 578 = .ok (.aload_n 0, 1) := by decide +kernel
theorem dL_law_579 : decode cL_law 579 = .ok (.iload_n 3, 1) := by decide +kernel
theorem dL_law_580 : decode cL_law 580 = .ok (.iconst 3, 1) := by decide +kernel
theorem dL_law_581 : decode cL_law 581 = .ok (.iadd, 1) := by decide +kernel
theorem dL_law_582 : decode cL_law 582 = .ok (.iaload, 1) := by decide +kernel
theorem dL_law_583 : decode cL_law 583 = .ok (.aload_n 0, 1) := by decide +kernel
theorem dL_law_584 : decode cL_law 584 = .ok (.iload_n 3, 1) := by decide +kernel
theorem dL_law_585 : decode cL_law 585 = .ok (.iconst 4, 1) := by decide +kernel
theorem dL_law_586 : decode cL_law 586 = .ok (.iadd, 1) := by decide +kernel
theorem dL_law_587 : decode cL_law 587 = .ok (.iaload, 1) := by decide +kernel
theorem dL_law_588 : decode cL_law 588 = .ok (.aload_n 0, 1) := by decide +kernel
theorem dL_law_589 : decode cL_law 589 = .ok (.iload_n 3, 1) := by decide +kernel
theorem dL_law_590 : decode cL_law 590 = .ok (.iconst 5, 1) := by decide +kernel
theorem dL_law_591 : decode cL_law 591 = .ok (.iadd, 1) := by decide +kernel
theorem dL_law_592 : decode cL_law 592 = .ok (.iaload, 1) := by decide +kernel
theorem dL_law_593 : decode cL_law 593 = .ok (.invokevirtual 65, 3) := by decide +kernel
theorem dL_law_596 : decode cL_law 596 = .ok (.if_icmp .eq 463, 3) := by decide +kernel
theorem dL_law_599 : decode cL_law 599 = .ok (.iconst 0, 1) := by decide +kernel
theorem dL_law_600 : decode cL_law 600 = .ok (.ireturn, 1) := by decide +kernel
theorem dL_law_601 : decode cL_law 601 = .ok (.aload_n 1, 1) := by decide +kernel
theorem dL_law_602 : decode cL_law 602 = .ok (.invokevirtual 66, 3) := by decide +kernel
theorem dL_law_605 : decode cL_law 605 = .ok (.aload_n 2, 1) := by decide +kernel
theorem dL_law_606 : decode cL_law 606 = .ok (.invokevirtual 69, 3) := by decide +kernel
theorem dL_law_609 : decode cL_law 609 = .ok (.if_icmp .eq 450, 3) := by decide +kernel
theorem dL_law_612 : decode cL_law 612 = .ok (.iconst 0, 1) := by decide +kernel
theorem dL_law_613 : decode cL_law 613 = .ok (.ireturn, 1) := by decide +kernel
theorem dL_law_614 : decode cL_law 614 = .ok (.aload_n 1, 1) := by decide +kernel
theorem dL_law_615 : decode cL_law 615 = .ok (.invokevirtual 70, 3) := by decide +kernel
theorem dL_law_618 : decode cL_law 618 = .ok (.aload_n 2, 1) := by decide +kernel
theorem dL_law_619 : decode cL_law 619 = .ok (.invokevirtual 73, 3) := by decide +kernel
theorem dL_law_622 : decode cL_law 622 = .ok (.if_icmp .eq 437, 3) := by decide +kernel
theorem dL_law_625 : decode cL_law 625 = .ok (.iconst 0, 1) := by decide +kernel
theorem dL_law_626 : decode cL_law 626 = .ok (.ireturn, 1) := by decide +kernel
theorem dL_law_627 : decode cL_law 627 = .ok (.aload_n 1, 1) := by decide +kernel
theorem dL_law_628 : decode cL_law 628 = .ok (.aload_n 0, 1) := by decide +kernel
theorem dL_law_629 : decode cL_law 629 = .ok (.iload_n 3, 1) := by decide +kernel
theorem dL_law_630 : decode cL_law 630 = .ok (.iconst 1, 1) := by decide +kernel
theorem dL_law_631 : decode cL_law 631 = .ok (.iadd, 1) := by decide +kernel
theorem dL_law_632 : decode cL_law 632 = .ok (.iaload, 1) := by decide +kernel
theorem dL_law_633 : decode cL_law 633 = .ok (.invokevirtual 74, 3) := by decide +kernel
theorem dL_law_636 : decode cL_law 636 = .ok (.aload_n 2, 1) := by decide +kernel
theorem dL_law_637 : decode cL_law 637 = .ok (.aload_n 0, 1) := by decide +kernel
theorem dL_law_638 : decode cL_law 638 = .ok (.iload_n 3, 1) := by decide +kernel
theorem dL_law_639 : decode cL_law 639 = .ok (.iconst 1, 1) := by decide +kernel
theorem dL_law_640 : decode cL_law 640 = .ok (.iadd, 1) := by decide +kernel
theorem dL_law_641 : decode cL_law 641 = .ok (.iaload, 1) := by decide +kernel
theorem dL_law_642 : decode cL_law 642 = .ok (.invokevirtual 77, 3) := by decide +kernel
theorem dL_law_645 : decode cL_law 645 = .ok (.if_icmp .eq 414, 3) := by decide +kernel
theorem dL_law_648 : decode cL_law 648 = .ok (.iconst 0, 1) := by decide +kernel
theorem dL_law_649 : decode cL_law 649 = .ok (.ireturn, 1) := by decide +kernel
theorem dL_law_650 : decode cL_law 650 = .ok (.aload_n 1, 1) := by decide +kernel
theorem dL_law_651 : decode cL_law 651 = .ok (.invokevirtual 78, 3) := by decide +kernel
theorem dL_law_654 : decode cL_law 654 = .ok (.aload_n 2, 1) := by decide +kernel
theorem dL_law_655 : decode cL_law 655 = .ok (.invokevirtual 81, 3) := by decide +kernel
theorem dL_law_658 : decode cL_law 658 = .ok (.if_icmp .eq 401, 3) := by decide +kernel
theorem dL_law_661 : decode cL_law 661 = .ok (.iconst 0, 1) := by decide +kernel
theorem dL_law_662 : decode cL_law 662 = .ok (.ireturn, 1) := by decide +kernel
theorem dL_law_663 : decode cL_law 663 = .ok (.aload_n 1, 1) := by decide +kernel
theorem dL_law_664 : decode cL_law 664 = .ok (.aload_n 0, 1) := by decide +kernel
theorem dL_law_665 : decode cL_law 665 = .ok (.iload_n 3, 1) := by decide +kernel
theorem dL_law_666 : decode cL_law 666 = .ok (.iconst 1, 1) := by decide +kernel
theorem dL_law_667 : decode cL_law 667 = .ok (.iadd, 1) := by decide +kernel
theorem dL_law_668 : decode cL_law 668 = .ok (.iaload, 1) := by decide +kernel
theorem dL_law_669 : decode cL_law 669 = .ok (.aload_n 0, 1) := by decide +kernel
theorem dL_law_670 : decode cL_law 670 = .ok (.iload_n 3, 1) := by decide +kernel
theorem dL_law_671 : decode cL_law 671 = .ok (.iconst 2, 1) := by decide +kernel
theorem dL_law_672 : decode cL_law 672 = .ok (.iadd, 1) := by decide +kernel
theorem dL_law_673 : decode cL_law 673 = .ok (.iaload, 1) := by decide +kernel
theorem dL_law_674 : decode cL_law 674 = .ok (.aload_n 0, 1) := by decide +kernel
theorem dL_law_675 : decode cL_law 675 = .ok (.iload_n 3, 1) := by decide +kernel
theorem dL_law_676 : decode cL_law 676 = .ok (.iconst 3, 1) := by decide +kernel
theorem dL_law_677 : decode cL_law 677 = .ok (.iadd, 1) := by decide +kernel
theorem dL_law_678 : decode cL_law 678 = .ok (.iaload, 1) := by decide +kernel
theorem dL_law_679 : decode cL_law 679 = .ok (.invokevirtual 82, 3) := by decide +kernel
theorem dL_law_682 : decode cL_law 682 = .ok (.aload_n 2, 1) := by decide +kernel
theorem dL_law_683 : decode cL_law 683 = .ok (.aload_n 0, 1) := by decide +kernel
theorem dL_law_684 : decode cL_law 684 = .ok (.iload_n 3, 1) := by decide +kernel
theorem dL_law_685 : decode cL_law 685 = .ok (.iconst 1, 1) := by decide +kernel
theorem dL_law_686 : decode cL_law 686 = .ok (.iadd, 1) := by decide +kernel
theorem dL_law_687 : decode cL_law 687 = .ok (.iaload, 1) := by decide +kernel
theorem dL_law_688 : decode cL_law 688 = .ok (.aload_n 0, 1) := by decide +kernel
theorem dL_law_689 : decode cL_law 689 = .ok (.iload_n 3, 1) := by decide +kernel
theorem dL_law_690 : decode cL_law 690 = .ok (.iconst 2, 1) := by decide +kernel
theorem dL_law_691 : decode cL_law 691 = .ok (.iadd, 1) := by decide +kernel
theorem dL_law_692 : decode cL_law 692 = .ok (.iaload, 1) := by decide +kernel
theorem dL_law_693 : decode cL_law 693 = .ok (.aload_n 0, 1) := by decide +kernel
theorem dL_law_694 : decode cL_law 694 = .ok (.iload_n 3, 1) := by decide +kernel
theorem dL_law_695 : decode cL_law 695 = .ok (.iconst 3, 1) := by decide +kernel
theorem dL_law_696 : decode cL_law 696 = .ok (.iadd, 1) := by decide +kernel
theorem dL_law_697 : decode cL_law 697 = .ok (.iaload, 1) := by decide +kernel
theorem dL_law_698 : decode cL_law 698 = .ok (.invokevirtual 86, 3) := by decide +kernel
theorem dL_law_701 : decode cL_law 701 = .ok (.if_icmp .eq 358, 3) := by decide +kernel
theorem dL_law_704 : decode cL_law 704 = .ok (.iconst 0, 1) := by decide +kernel
theorem dL_law_705 : decode cL_law 705 = .ok (.ireturn, 1) := by decide +kernel
theorem dL_law_706 : decode cL_law 706 = .ok (.aload_n 1, 1) := by decide +kernel
theorem dL_law_707 : decode cL_law 707 = .ok (.aload_n 0, 1) := by decide +kernel
theorem dL_law_708 : decode cL_law 708 = .ok (.iload_n 3, 1) := by decide +kernel
theorem dL_law_709 : decode cL_law 709 = .ok (.iconst 1, 1) := by decide +kernel
theorem dL_law_710 : decode cL_law 710 = .ok (.iadd, 1) := by decide +kernel
theorem dL_law_711 : decode cL_law 711 = .ok (.iaload, 1) := by decide +kernel
theorem dL_law_712 : decode cL_law 712 = .ok (.aload_n 0, 1) := by decide +kernel
theorem dL_law_713 : decode cL_law 713 = .ok (.iload_n 3, 1) := by decide +kernel
theorem dL_law_714 : decode cL_law 714 = .ok (.iconst 2, 1) := by decide +kernel
theorem dL_law_715 : decode cL_law 715 = .ok (.iadd, 1) := by decide +kernel
theorem dL_law_716 : decode cL_law 716 = .ok (.iaload, 1) := by decide +kernel
theorem dL_law_717 : decode cL_law 717 = .ok (.aload_n 0, 1) := by decide +kernel
theorem dL_law_718 : decode cL_law 718 = .ok (.iload_n 3, 1) := by decide +kernel
theorem dL_law_719 : decode cL_law 719 = .ok (.iconst 3, 1) := by decide +kernel
theorem dL_law_720 : decode cL_law 720 = .ok (.iadd, 1) := by decide +kernel
theorem dL_law_721 : decode cL_law 721 = .ok (.iaload, 1) := by decide +kernel
theorem dL_law_722 : decode cL_law 722 = .ok (.invokevirtual 87, 3) := by decide +kernel
theorem dL_law_725 : decode cL_law 725 = .ok (.aload_n 2, 1) := by decide +kernel
theorem dL_law_726 : decode cL_law 726 = .ok (.aload_n 0, 1) := by decide +kernel
theorem dL_law_727 : decode cL_law 727 = .ok (.iload_n 3, 1) := by decide +kernel
theorem dL_law_728 : decode cL_law 728 = .ok (.iconst 1, 1) := by decide +kernel
theorem dL_law_729 : decode cL_law 729 = .ok (.iadd, 1) := by decide +kernel
theorem dL_law_730 : decode cL_law 730 = .ok (.iaload, 1) := by decide +kernel
theorem dL_law_731 : decode cL_law 731 = .ok (.aload_n 0, 1) := by decide +kernel
theorem dL_law_732 : decode cL_law 732 = .ok (.iload_n 3, 1) := by decide +kernel
theorem dL_law_733 : decode cL_law 733 = .ok (.iconst 2, 1) := by decide +kernel
theorem dL_law_734 : decode cL_law 734 = .ok (.iadd, 1) := by decide +kernel
theorem dL_law_735 : decode cL_law 735 = .ok (.iaload, 1) := by decide +kernel
theorem dL_law_736 : decode cL_law 736 = .ok (.aload_n 0, 1) := by decide +kernel
theorem dL_law_737 : decode cL_law 737 = .ok (.iload_n 3, 1) := by decide +kernel
theorem dL_law_738 : decode cL_law 738 = .ok (.iconst 3, 1) := by decide +kernel
theorem dL_law_739 : decode cL_law 739 = .ok (.iadd, 1) := by decide +kernel
theorem dL_law_740 : decode cL_law 740 = .ok (.iaload, 1) := by decide +kernel
theorem dL_law_741 : decode cL_law 741 = .ok (.invokevirtual 90, 3) := by decide +kernel
theorem dL_law_744 : decode cL_law 744 = .ok (.if_icmp .eq 315, 3) := by decide +kernel
theorem dL_law_747 : decode cL_law 747 = .ok (.iconst 0, 1) := by decide +kernel
theorem dL_law_748 : decode cL_law 748 = .ok (.ireturn, 1) := by decide +kernel
theorem dL_law_749 : decode cL_law 749 = .ok (.aload_n 1, 1) := by decide +kernel
theorem dL_law_750 : decode cL_law 750 = .ok (.aload_n 0, 1) := by decide +kernel
theorem dL_law_751 : decode cL_law 751 = .ok (.iload_n 3, 1) := by decide +kernel
theorem dL_law_752 : decode cL_law 752 = .ok (.iconst 1, 1) := by decide +kernel
theorem dL_law_753 : decode cL_law 753 = .ok (.iadd, 1) := by decide +kernel
theorem dL_law_754 : decode cL_law 754 = .ok (.iaload, 1) := by decide +kernel
theorem dL_law_755 : decode cL_law 755 = .ok (.aload_n 0, 1) := by decide +kernel
theorem dL_law_756 : decode cL_law 756 = .ok (.iload_n 3, 1) := by decide +kernel
theorem dL_law_757 : decode cL_law 757 = .ok (.iconst 2, 1) := by decide +kernel
theorem dL_law_758 : decode cL_law 758 = .ok (.iadd, 1) := by decide +kernel
theorem dL_law_759 : decode cL_law 759 = .ok (.iaload, 1) := by decide +kernel
theorem dL_law_760 : decode cL_law 760 = .ok (.invokevirtual 91, 3) := by decide +kernel
theorem dL_law_763 : decode cL_law 763 = .ok (.aload_n 2, 1) := by decide +kernel
theorem dL_law_764 : decode cL_law 764 = .ok (.aload_n 0, 1) := by decide +kernel
theorem dL_law_765 : decode cL_law 765 = .ok (.iload_n 3, 1) := by decide +kernel
theorem dL_law_766 : decode cL_law 766 = .ok (.iconst 1, 1) := by decide +kernel
theorem dL_law_767 : decode cL_law 767 = .ok (.iadd, 1) := by decide +kernel
theorem dL_law_768 : decode cL_law 768 = .ok (.iaload, 1) := by decide +kernel
theorem dL_law_769 : decode cL_law 769 = .ok (.aload_n 0, 1) := by decide +kernel
theorem dL_law_770 : decode cL_law 770 = .ok (.iload_n 3, 1) := by decide +kernel
theorem dL_law_771 : decode cL_law 771 = .ok (.iconst 2, 1) := by decide +kernel
theorem dL_law_772 : decode cL_law 772 = .ok (.iadd, 1) := by decide +kernel
theorem dL_law_773 : decode cL_law 773 = .ok (.iaload, 1) := by decide +kernel
theorem dL_law_774 : decode cL_law 774 = .ok (.invokevirtual 94, 3) := by decide +kernel
theorem dL_law_777 : decode cL_law 777 = .ok (.if_icmp .eq 282, 3) := by decide +kernel
theorem dL_law_780 : decode cL_law 780 = .ok (.iconst 0, 1) := by decide +kernel
theorem dL_law_781 : decode cL_law 781 = .ok (.ireturn, 1) := by decide +kernel
theorem dL_law_782 : decode cL_law 782 = .ok (.aload_n 1, 1) := by decide +kernel
theorem dL_law_783 : decode cL_law 783 = .ok (.aload_n 0, 1) := by decide +kernel
theorem dL_law_784 : decode cL_law 784 = .ok (.iload_n 3, 1) := by decide +kernel
theorem dL_law_785 : decode cL_law 785 = .ok (.iconst 1, 1) := by decide +kernel
theorem dL_law_786 : decode cL_law 786 = .ok (.iadd, 1) := by decide +kernel
theorem dL_law_787 : decode cL_law 787 = .ok (.iaload, 1) := by decide +kernel
theorem dL_law_788 : decode cL_law 788 = .ok (.aload_n 0, 1) := by decide +kernel
theorem dL_law_789 : decode cL_law 789 = .ok (.iload_n 3, 1) := by decide +kernel
theorem dL_law_790 : decode cL_law 790 = .ok (.iconst 2, 1) := by decide +kernel
theorem dL_law_791 : decode cL_law 791 = .ok (.iadd, 1) := by decide +kernel
theorem dL_law_792 : decode cL_law 792 = .ok (.iaload, 1) := by decide +kernel
theorem dL_law_793 : decode cL_law 793 = .ok (.invokevirtual 95, 3) := by decide +kernel
theorem dL_law_796 : decode cL_law 796 = .ok (.aload_n 2, 1) := by decide +kernel
theorem dL_law_797 : decode cL_law 797 = .ok (.aload_n 0, 1) := by decide +kernel
theorem dL_law_798 : decode cL_law 798 = .ok (.iload_n 3, 1) := by decide +kernel
theorem dL_law_799 : decode cL_law 799 = .ok (.iconst 1, 1) := by decide +kernel
theorem dL_law_800 : decode cL_law 800 = .ok (.iadd, 1) := by decide +kernel
theorem dL_law_801 : decode cL_law 801 = .ok (.iaload, 1) := by decide +kernel
theorem dL_law_802 : decode cL_law 802 = .ok (.aload_n 0, 1) := by decide +kernel
theorem dL_law_803 : decode cL_law 803 = .ok (.iload_n 3, 1) := by decide +kernel
theorem dL_law_804 : decode cL_law 804 = .ok (.iconst 2, 1) := by decide +kernel
theorem dL_law_805 : decode cL_law 805 = .ok (.iadd, 1) := by decide +kernel
theorem dL_law_806 : decode cL_law 806 = .ok (.iaload, 1) := by decide +kernel
theorem dL_law_807 : decode cL_law 807 = .ok (.invokevirtual 98, 3) := by decide +kernel
theorem dL_law_810 : decode cL_law 810 = .ok (.if_icmp .eq 249, 3) := by decide +kernel
theorem dL_law_813 : decode cL_law 813 = .ok (.iconst 0, 1) := by decide +kernel
theorem dL_law_814 : decode cL_law 814 = .ok (.ireturn, 1) := by decide +kernel
theorem dL_law_815 : decode cL_law 815 = .ok (.aload_n 1, 1) := by decide +kernel
theorem dL_law_816 : decode cL_law 816 = .ok (.invokevirtual 99, 3) := by decide +kernel
theorem dL_law_819 : decode cL_law 819 = .ok (.aload_n 2, 1) := by decide +kernel
theorem dL_law_820 : decode cL_law 820 = .ok (.invokevirtual 102, 3) := by decide +kernel
theorem dL_law_823 : decode cL_law 823 = .ok (.if_icmp .eq 236, 3) := by decide +kernel
theorem dL_law_826 : decode cL_law 826 = .ok (.iconst 0, 1) := by decide +kernel
theorem dL_law_827 : decode cL_law 827 = .ok (.ireturn, 1) := by decide +kernel
theorem dL_law_828 : decode cL_law 828 = .ok (.aload_n 1, 1) := by decide +kernel
theorem dL_law_829 : decode cL_law 829 = .ok (.aload_n 0, 1) := by decide +kernel
theorem dL_law_830 : decode cL_law 830 = .ok (.iload_n 3, 1) := by decide +kernel
theorem dL_law_831 : decode cL_law 831 = .ok (.iconst 1, 1) := by decide +kernel
theorem dL_law_832 : decode cL_law 832 = .ok (.iadd, 1) := by decide +kernel
theorem dL_law_833 : decode cL_law 833 = .ok (.iaload, 1) := by decide +kernel
theorem dL_law_834 : decode cL_law 834 = .ok (.aload_n 0, 1) := by decide +kernel
theorem dL_law_835 : decode cL_law 835 = .ok (.iload_n 3, 1) := by decide +kernel
theorem dL_law_836 : decode cL_law 836 = .ok (.iconst 2, 1) := by decide +kernel
theorem dL_law_837 : decode cL_law 837 = .ok (.iadd, 1) := by decide +kernel
theorem dL_law_838 : decode cL_law 838 = .ok (.iaload, 1) := by decide +kernel
theorem dL_law_839 : decode cL_law 839 = .ok (.invokevirtual 103, 3) := by decide +kernel
theorem dL_law_842 : decode cL_law 842 = .ok (.aload_n 2, 1) := by decide +kernel
theorem dL_law_843 : decode cL_law 843 = .ok (.aload_n 0, 1) := by decide +kernel
theorem dL_law_844 : decode cL_law 844 = .ok (.iload_n 3, 1) := by decide +kernel
theorem dL_law_845 : decode cL_law 845 = .ok (.iconst 1, 1) := by decide +kernel
theorem dL_law_846 : decode cL_law 846 = .ok (.iadd, 1) := by decide +kernel
theorem dL_law_847 : decode cL_law 847 = .ok (.iaload, 1) := by decide +kernel
theorem dL_law_848 : decode cL_law 848 = .ok (.aload_n 0, 1) := by decide +kernel
theorem dL_law_849 : decode cL_law 849 = .ok (.iload_n 3, 1) := by decide +kernel
theorem dL_law_850 : decode cL_law 850 = .ok (.iconst 2, 1) := by decide +kernel
theorem dL_law_851 : decode cL_law 851 = .ok (.iadd, 1) := by decide +kernel
theorem dL_law_852 : decode cL_law 852 = .ok (.iaload, 1) := by decide +kernel
theorem dL_law_853 : decode cL_law 853 = .ok (.invokevirtual 106, 3) := by decide +kernel
theorem dL_law_856 : decode cL_law 856 = .ok (.if_icmp .eq 203, 3) := by decide +kernel
theorem dL_law_859 : decode cL_law 859 = .ok (.iconst 0, 1) := by decide +kernel
theorem dL_law_860 : decode cL_law 860 = .ok (.ireturn, 1) := by decide +kernel
theorem dL_law_861 : decode cL_law 861 = .ok (.aload_n 1, 1) := by decide +kernel
theorem dL_law_862 : decode cL_law 862 = .ok (.aload_n 0, 1) := by decide +kernel
theorem dL_law_863 : decode cL_law 863 = .ok (.iload_n 3, 1) := by decide +kernel
theorem dL_law_864 : decode cL_law 864 = .ok (.iconst 1, 1) := by decide +kernel
theorem dL_law_865 : decode cL_law 865 = .ok (.iadd, 1) := by decide +kernel
theorem dL_law_866 : decode cL_law 866 = .ok (.iaload, 1) := by decide +kernel
theorem dL_law_867 : decode cL_law 867 = .ok (.invokevirtual 107, 3) := by decide +kernel
theorem dL_law_870 : decode cL_law 870 = .ok (.aload_n 2, 1) := by decide +kernel
theorem dL_law_871 : decode cL_law 871 = .ok (.aload_n 0, 1) := by decide +kernel
theorem dL_law_872 : decode cL_law 872 = .ok (.iload_n 3, 1) := by decide +kernel
theorem dL_law_873 : decode cL_law 873 = .ok (.iconst 1, 1) := by decide +kernel
theorem dL_law_874 : decode cL_law 874 = .ok (.iadd, 1) := by decide +kernel
theorem dL_law_875 : decode cL_law 875 = .ok (.iaload, 1) := by decide +kernel
theorem dL_law_876 : decode cL_law 876 = .ok (.invokevirtual 110, 3) := by decide +kernel
theorem dL_law_879 : decode cL_law 879 = .ok (.if_icmp .eq 180, 3) := by decide +kernel
theorem dL_law_882 : decode cL_law 882 = .ok (.iconst 0, 1) := by decide +kernel
theorem dL_law_883 : decode cL_law 883 = .ok (.ireturn, 1) := by decide +kernel
theorem dL_law_884 : decode cL_law 884 = .ok (.aload_n 1, 1) := by decide +kernel
theorem dL_law_885 : decode cL_law 885 = .ok (.aload_n 0, 1) := by decide +kernel
theorem dL_law_886 : decode cL_law 886 = .ok (.iload_n 3, 1) := by decide +kernel
theorem dL_law_887 : decode cL_law 887 = .ok (.iconst 1, 1) := by decide +kernel
theorem dL_law_888 : decode cL_law 888 = .ok (.iadd, 1) := by decide +kernel
theorem dL_law_889 : decode cL_law 889 = .ok (.iaload, 1) := by decide +kernel
theorem dL_law_890 : decode cL_law 890 = .ok (.aload_n 0, 1) := by decide +kernel
theorem dL_law_891 : decode cL_law 891 = .ok (.iload_n 3, 1) := by decide +kernel
theorem dL_law_892 : decode cL_law 892 = .ok (.iconst 2, 1) := by decide +kernel
theorem dL_law_893 : decode cL_law 893 = .ok (.iadd, 1) := by decide +kernel
theorem dL_law_894 : decode cL_law 894 = .ok (.iaload, 1) := by decide +kernel
theorem dL_law_895 : decode cL_law 895 = .ok (.aload_n 0, 1) := by decide +kernel
theorem dL_law_896 : decode cL_law 896 = .ok (.iload_n 3, 1) := by decide +kernel
theorem dL_law_897 : decode cL_law 897 = .ok (.iconst 3, 1) := by decide +kernel
theorem dL_law_898 : decode cL_law 898 = .ok (.iadd, 1) := by decide +kernel
theorem dL_law_899 : decode cL_law 899 = .ok (.iaload, 1) := by decide +kernel
theorem dL_law_900 : decode cL_law 900 = .ok (.invokevirtual 111, 3) := by decide +kernel
theorem dL_law_903 : decode cL_law 903 = .ok (.aload_n 2, 1) := by decide +kernel
theorem dL_law_904 : decode cL_law 904 = .ok (.aload_n 0, 1) := by decide +kernel
theorem dL_law_905 : decode cL_law 905 = .ok (.iload_n 3, 1) := by decide +kernel
theorem dL_law_906 : decode cL_law 906 = .ok (.iconst 1, 1) := by decide +kernel
theorem dL_law_907 : decode cL_law 907 = .ok (.iadd, 1) := by decide +kernel
theorem dL_law_908 : decode cL_law 908 = .ok (.iaload, 1) := by decide +kernel
theorem dL_law_909 : decode cL_law 909 = .ok (.aload_n 0, 1) := by decide +kernel
theorem dL_law_910 : decode cL_law 910 = .ok (.iload_n 3, 1) := by decide +kernel
theorem dL_law_911 : decode cL_law 911 = .ok (.iconst 2, 1) := by decide +kernel
theorem dL_law_912 : decode cL_law 912 = .ok (.iadd, 1) := by decide +kernel
theorem dL_law_913 : decode cL_law 913 = .ok (.iaload, 1) := by decide +kernel
theorem dL_law_914 : decode cL_law 914 = .ok (.aload_n 0, 1) := by decide +kernel
theorem dL_law_915 : decode cL_law 915 = .ok (.iload_n 3, 1) := by decide +kernel
theorem dL_law_916 : decode cL_law 916 = .ok (.iconst 3, 1) := by decide +kernel
theorem dL_law_917 : decode cL_law 917 = .ok (.iadd, 1) := by decide +kernel
theorem dL_law_918 : decode cL_law 918 = .ok (.iaload, 1) := by decide +kernel
theorem dL_law_919 : decode cL_law 919 = .ok (.invokevirtual 114, 3) := by decide +kernel
theorem dL_law_922 : decode cL_law 922 = .ok (.if_icmp .eq 137, 3) := by decide +kernel
theorem dL_law_925 : decode cL_law 925 = .ok (.iconst 0, 1) := by decide +kernel
theorem dL_law_926 : decode cL_law 926 = .ok (.ireturn, 1) := by decide +kernel
theorem dL_law_927 : decode cL_law 927 = .ok (.aload_n 1, 1) := by decide +kernel
theorem dL_law_928 : decode cL_law 928 = .ok (.aload_n 0, 1) := by decide +kernel
theorem dL_law_929 : decode cL_law 929 = .ok (.iload_n 3, 1) := by decide +kernel
theorem dL_law_930 : decode cL_law 930 = .ok (.iconst 1, 1) := by decide +kernel
theorem dL_law_931 : decode cL_law 931 = .ok (.iadd, 1) := by decide +kernel
theorem dL_law_932 : decode cL_law 932 = .ok (.iaload, 1) := by decide +kernel
theorem dL_law_933 : decode cL_law 933 = .ok (.aload_n 0, 1) := by decide +kernel
theorem dL_law_934 : decode cL_law 934 = .ok (.iload_n 3, 1) := by decide +kernel
theorem dL_law_935 : decode cL_law 935 = .ok (.iconst 2, 1) := by decide +kernel
theorem dL_law_936 : decode cL_law 936 = .ok (.iadd, 1) := by decide +kernel
theorem dL_law_937 : decode cL_law 937 = .ok (.iaload, 1) := by decide +kernel
theorem dL_law_938 : decode cL_law 938 = .ok (.invokevirtual 115, 3) := by decide +kernel
theorem dL_law_941 : decode cL_law 941 = .ok (.aload_n 2, 1) := by decide +kernel
theorem dL_law_942 : decode cL_law 942 = .ok (.aload_n 0, 1) := by decide +kernel
theorem dL_law_943 : decode cL_law 943 = .ok (.iload_n 3, 1) := by decide +kernel
theorem dL_law_944 : decode cL_law 944 = .ok (.iconst 1, 1) := by decide +kernel
theorem dL_law_945 : decode cL_law 945 = .ok (.iadd, 1) := by decide +kernel
theorem dL_law_946 : decode cL_law 946 = .ok (.iaload, 1) := by decide +kernel
theorem dL_law_947 : decode cL_law 947 = .ok (.aload_n 0, 1) := by decide +kernel
theorem dL_law_948 : decode cL_law 948 = .ok (.iload_n 3, 1) := by decide +kernel
theorem dL_law_949 : decode cL_law 949 = .ok (.iconst 2, 1) := by decide +kernel
theorem dL_law_950 : decode cL_law 950 = .ok (.iadd, 1) := by decide +kernel
theorem dL_law_951 : decode cL_law 951 = .ok (.iaload, 1) := by decide +kernel
theorem dL_law_952 : decode cL_law 952 = .ok (.invokevirtual 118, 3) := by decide +kernel
theorem dL_law_955 : decode cL_law 955 = .ok (.if_icmp .eq 104, 3) := by decide +kernel
theorem dL_law_958 : decode cL_law 958 = .ok (.iconst 0, 1) := by decide +kernel
theorem dL_law_959 : decode cL_law 959 = .ok (.ireturn, 1) := by decide +kernel
theorem dL_law_960 : decode cL_law 960 = .ok (.aload_n 1, 1) := by decide +kernel
theorem dL_law_961 : decode cL_law 961 = .ok (.aload_n 0, 1) := by decide +kernel
theorem dL_law_962 : decode cL_law 962 = .ok (.iload_n 3, 1) := by decide +kernel
theorem dL_law_963 : decode cL_law 963 = .ok (.iconst 1, 1) := by decide +kernel
theorem dL_law_964 : decode cL_law 964 = .ok (.iadd, 1) := by decide +kernel
theorem dL_law_965 : decode cL_law 965 = .ok (.iaload, 1) := by decide +kernel
theorem dL_law_966 : decode cL_law 966 = .ok (.aload_n 0, 1) := by decide +kernel
theorem dL_law_967 : decode cL_law 967 = .ok (.iload_n 3, 1) := by decide +kernel
theorem dL_law_968 : decode cL_law 968 = .ok (.iconst 2, 1) := by decide +kernel
theorem dL_law_969 : decode cL_law 969 = .ok (.iadd, 1) := by decide +kernel
theorem dL_law_970 : decode cL_law 970 = .ok (.iaload, 1) := by decide +kernel
theorem dL_law_971 : decode cL_law 971 = .ok (.aload_n 0, 1) := by decide +kernel
theorem dL_law_972 : decode cL_law 972 = .ok (.iload_n 3, 1) := by decide +kernel
theorem dL_law_973 : decode cL_law 973 = .ok (.iconst 3, 1) := by decide +kernel
theorem dL_law_974 : decode cL_law 974 = .ok (.iadd, 1) := by decide +kernel
theorem dL_law_975 : decode cL_law 975 = .ok (.iaload, 1) := by decide +kernel
theorem dL_law_976 : decode cL_law 976 = .ok (.aload_n 0, 1) := by decide +kernel
theorem dL_law_977 : decode cL_law 977 = .ok (.iload_n 3, 1) := by decide +kernel
theorem dL_law_978 : decode cL_law 978 = .ok (.iconst 4, 1) := by decide +kernel
theorem dL_law_979 : decode cL_law 979 = .ok (.iadd, 1) := by decide +kernel
theorem dL_law_980 : decode cL_law 980 = .ok (.iaload, 1) := by decide +kernel
theorem dL_law_981 : decode cL_law 981 = .ok (.invokevirtual 119, 3) := by decide +kernel
theorem dL_law_984 : decode cL_law 984 = .ok (.aload_n 2, 1) := by decide +kernel
theorem dL_law_985 : decode cL_law 985 = .ok (.aload_n 0, 1) := by decide +kernel
theorem dL_law_986 : decode cL_law 986 = .ok (.iload_n 3, 1) := by decide +kernel
theorem dL_law_987 : decode cL_law 987 = .ok (.iconst 1, 1) := by decide +kernel
theorem dL_law_988 : decode cL_law 988 = .ok (.iadd, 1) := by decide +kernel
theorem dL_law_989 : decode cL_law 989 = .ok (.iaload, 1) := by decide +kernel
theorem dL_law_990 : decode cL_law 990 = .ok (.aload_n 0, 1) := by decide +kernel
theorem dL_law_991 : decode cL_law 991 = .ok (.iload_n 3, 1) := by decide +kernel
theorem dL_law_992 : decode cL_law 992 = .ok (.iconst 2, 1) := by decide +kernel
theorem dL_law_993 : decode cL_law 993 = .ok (.iadd, 1) := by decide +kernel
theorem dL_law_994 : decode cL_law 994 = .ok (.iaload, 1) := by decide +kernel
theorem dL_law_995 : decode cL_law 995 = .ok (.aload_n 0, 1) := by decide +kernel
theorem dL_law_996 : decode cL_law 996 = .ok (.iload_n 3, 1) := by decide +kernel
theorem dL_law_997 : decode cL_law 997 = .ok (.iconst 3, 1) := by decide +kernel
theorem dL_law_998 : decode cL_law 998 = .ok (.iadd, 1) := by decide +kernel
theorem dL_law_999 : decode cL_law 999 = .ok (.iaload, 1) := by decide +kernel
theorem dL_law_1000 : decode cL_law 1000 = .ok (.aload_n 0, 1) := by decide +kernel
theorem dL_law_1001 : decode cL_law 1001 = .ok (.iload_n 3, 1) := by decide +kernel
theorem dL_law_1002 : decode cL_law 1002 = .ok (.iconst 4, 1) := by decide +kernel
theorem dL_law_1003 : decode cL_law 1003 = .ok (.iadd, 1) := by decide +kernel
theorem dL_law_1004 : decode cL_law 1004 = .ok (.iaload, 1) := by decide +kernel
theorem dL_law_1005 : decode cL_law 1005 = .ok (.invokevirtual 123, 3) := by decide +kernel
theorem dL_law_1008 : decode cL_law 1008 = .ok (.if_icmp .eq 51, 3) := by decide +kernel
theorem dL_law_1011 : decode cL_law 1011 = .ok (.iconst 0, 1) := by decide +kernel
theorem dL_law_1012 : decode cL_law 1012 = .ok (.ireturn, 1) := by decide +kernel
theorem dL_law_1013 : decode cL_law 1013 = .ok (.aload_n 1, 1) := by decide +kernel
theorem dL_law_1014 : decode cL_law 1014 = .ok (.aload_n 0, 1) := by decide +kernel
theorem dL_law_1015 : decode cL_law 1015 = .ok (.iload_n 3, 1) := by decide +kernel
theorem dL_law_1016 : decode cL_law 1016 = .ok (.iconst 1, 1) := by decide +kernel
theorem dL_law_1017 : decode cL_law 1017 = .ok (.iadd, 1) := by decide +kernel
theorem dL_law_1018 : decode cL_law 1018 = .ok (.iaload, 1) := by decide +kernel
theorem dL_law_1019 : decode cL_law 1019 = .ok (.invokevirtual 124, 3) := by decide +kernel
theorem dL_law_1022 : decode cL_law 1022 = .ok (.aload_n 2, 1) := by decide +kernel
theorem dL_law_1023 : decode cL_law 1023 = .ok (.aload_n 0, 1) := by decide +kernel
theorem dL_law_1024 : decode cL_law 1024 = .ok (.iload_n 3, 1) := by decide +kernel
theorem dL_law_1025 : decode cL_law 1025 = .ok (.iconst 1, 1) := by decide +kernel
theorem dL_law_1026 : decode cL_law 1026 = .ok (.iadd, 1) := by decide +kernel
theorem dL_law_1027 : decode cL_law 1027 = .ok (.iaload, 1) := by decide +kernel
theorem dL_law_1028 : decode cL_law 1028 = .ok (.invokevirtual 127, 3) := by decide +kernel
theorem dL_law_1031 : decode cL_law 1031 = .ok (.if_icmp .eq 28, 3) := by decide +kernel
theorem dL_law_1034 : decode cL_law 1034 = .ok (.iconst 0, 1) := by decide +kernel
theorem dL_law_1035 : decode cL_law 1035 = .ok (.ireturn, 1) := by decide +kernel
theorem dL_law_1036 : decode cL_law 1036 = .ok (.aload_n 1, 1) := by decide +kernel
theorem dL_law_1037 : decode cL_law 1037 = .ok (.aload_n 0, 1) := by decide +kernel
theorem dL_law_1038 : decode cL_law 1038 = .ok (.iload_n 3, 1) := by decide +kernel
theorem dL_law_1039 : decode cL_law 1039 = .ok (.iconst 1, 1) := by decide +kernel
theorem dL_law_1040 : decode cL_law 1040 = .ok (.iadd, 1) := by decide +kernel
theorem dL_law_1041 : decode cL_law 1041 = .ok (.iaload, 1) := by decide +kernel
theorem dL_law_1042 : decode cL_law 1042 = .ok (.invokevirtual 128, 3) := by decide +kernel
theorem dL_law_1045 : decode cL_law 1045 = .ok (.aload_n 2, 1) := by decide +kernel
theorem dL_law_1046 : decode cL_law 1046 = .ok (.aload_n 0, 1) := by decide +kernel
theorem dL_law_1047 : decode cL_law 1047 = .ok (.iload_n 3, 1) := by decide +kernel
theorem dL_law_1048 : decode cL_law 1048 = .ok (.iconst 1, 1) := by decide +kernel
theorem dL_law_1049 : decode cL_law 1049 = .ok (.iadd, 1) := by decide +kernel
theorem dL_law_1050 : decode cL_law 1050 = .ok (.iaload, 1) := by decide +kernel
theorem dL_law_1051 : decode cL_law 1051 = .ok (.invokevirtual 131, 3) := by decide +kernel
theorem dL_law_1054 : decode cL_law 1054 = .ok (.if_icmp .eq 5, 3) := by decide +kernel
theorem dL_law_1057 : decode cL_law 1057 = .ok (.iconst 0, 1) := by decide +kernel
theorem dL_law_1058 : decode cL_law 1058 = .ok (.ireturn, 1) := by decide +kernel
theorem dL_law_1059 : decode cL_law 1059 = .ok (.iinc 3 6, 3) := by decide +kernel
theorem dL_law_1062 : decode cL_law 1062 = .ok (.goto (-1044), 3) := by decide +kernel
theorem dL_law_1065 : decode cL_law 1065 = .ok (.iconst 1, 1) := by decide +kernel
theorem dL_law_1066 : decode cL_law 1066 = .ok (.ireturn, 1) := by decide +kernel
