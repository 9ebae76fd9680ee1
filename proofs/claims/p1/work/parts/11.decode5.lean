theorem d_Model_init_210 : decode b_Model_init 210 = .ok (.sipush 6001, 3) := by decide +kernel
theorem d_Model_init_213 : decode b_Model_init 213 = .ok (.newarray .int, 2) := by decide +kernel
theorem d_Model_init_215 : decode b_Model_init 215 = .ok (.putfield 102, 3) := by decide +kernel
theorem d_Model_init_218 : decode b_Model_init 218 = .ok (.aload_n 0, 1) := by decide +kernel
theorem d_Model_init_219 : decode b_Model_init 219 = .ok (.new 105, 3) := by decide +kernel
theorem d_Model_init_222 : decode b_Model_init 222 = .ok (.dup, 1) := by decide +kernel
theorem d_Model_init_223 : decode b_Model_init 223 = .ok (.invokespecial 107, 3) := by decide +kernel
theorem d_Model_init_226 : decode b_Model_init 226 = .ok (.putfield 108, 3) := by decide +kernel
theorem d_Model_init_229 : decode b_Model_init 229 = .ok (.aload_n 0, 1) := by decide +kernel
theorem d_Model_init_230 : decode b_Model_init 230 = .ok (.iconst 3, 1) := by decide +kernel
theorem d_Model_init_231 : decode b_Model_init 231 = .ok (.anewarray 105, 3) := by decide +kernel
theorem d_Model_init_234 : decode b_Model_init 234 = .ok (.putfield 112, 3) := by decide +kernel
theorem d_Model_init_237 : decode b_Model_init 237 = .ok (.aload_n 0, 1) := by decide +kernel
theorem d_Model_init_238 : decode b_Model_init 238 = .ok (.iconst 3, 1) := by decide +kernel
theorem d_Model_init_239 : decode b_Model_init 239 = .ok (.sipush 1000, 3) := by decide +kernel
theorem d_Model_init_242 : decode b_Model_init 242 = .ok (.multianewarray 116 2, 4) := by decide +kernel
theorem d_Model_init_246 : decode b_Model_init 246 = .ok (.putfield 118, 3) := by decide +kernel
theorem d_Model_init_249 : decode b_Model_init 249 = .ok (.aload_n 0, 1) := by decide +kernel
theorem d_Model_init_250 : decode b_Model_init 250 = .ok (.iconst 3, 1) := by decide +kernel
theorem d_Model_init_251 : decode b_Model_init 251 = .ok (.newarray .int, 2) := by decide +kernel
theorem d_Model_init_253 : decode b_Model_init 253 = .ok (.putfield 121, 3) := by decide +kernel
theorem d_Model_init_256 : decode b_Model_init 256 = .ok (.aload_n 0, 1) := by decide +kernel
theorem d_Model_init_257 : decode b_Model_init 257 = .ok (.new 63, 3) := by decide +kernel
theorem d_Model_init_260 : decode b_Model_init 260 = .ok (.dup, 1) := by decide +kernel
theorem d_Model_init_261 : decode b_Model_init 261 = .ok (.bipush 8, 2) := by decide +kernel
theorem d_Model_init_263 : decode b_Model_init 263 = .ok (.invokespecial 65, 3) := by decide +kernel
theorem d_Model_init_266 : decode b_Model_init 266 = .ok (.putfield 124, 3) := by decide +kernel
theorem d_Model_init_269 : decode b_Model_init 269 = .ok (.aload_n 0, 1) := by decide +kernel
theorem d_Model_init_270 : decode b_Model_init 270 = .ok (.sipush 200, 3) := by decide +kernel
theorem d_Model_init_273 : decode b_Model_init 273 = .ok (.newarray .int, 2) := by decide +kernel
theorem d_Model_init_275 : decode b_Model_init 275 = .ok (.putfield 127, 3) := by decide +kernel
theorem d_Model_init_278 : decode b_Model_init 278 = .ok (.aload_n 0, 1) := by decide +kernel
theorem d_Model_init_279 : decode b_Model_init 279 = .ok (.sipush 200, 3) := by decide +kernel
theorem d_Model_init_282 : decode b_Model_init 282 = .ok (.newarray .boolean, 2) := by decide +kernel
theorem d_Model_init_284 : decode b_Model_init 284 = .ok (.putfield 130, 3) := by decide +kernel
theorem d_Model_init_287 : decode b_Model_init 287 = .ok (.aload_n 0, 1) := by decide +kernel
theorem d_Model_init_288 : decode b_Model_init 288 = .ok (.new 63, 3) := by decide +kernel
theorem d_Model_init_291 : decode b_Model_init 291 = .ok (.dup, 1) := by decide +kernel
theorem d_Model_init_292 : decode b_Model_init 292 = .ok (.bipush 10, 2) := by decide +kernel
theorem d_Model_init_294 : decode b_Model_init 294 = .ok (.invokespecial 65, 3) := by decide +kernel
theorem d_Model_init_297 : decode b_Model_init 297 = .ok (.putfield 134, 3) := by decide +kernel
theorem d_Model_init_300 : decode b_Model_init 300 = .ok (.iconst 0, 1) := by decide +kernel
theorem d_Model_init_301 : decode b_Model_init 301 = .ok (.istore_n 1, 1) := by decide +kernel
theorem d_Model_init_302 : decode b_Model_init 302 = .ok (.iload_n 1, 1) := by decide +kernel
theorem d_Model_init_303 : decode b_Model_init 303 = .ok (.bipush 6, 2) := by decide +kernel
theorem d_Model_init_305 : decode b_Model_init 305 = .ok (.if_icmp .ge 26, 3) := by decide +kernel
theorem d_Model_init_308 : decode b_Model_init 308 = .ok (.aload_n 0, 1) := by decide +kernel
theorem d_Model_init_309 : decode b_Model_init 309 = .ok (.getfield 30, 3) := by decide +kernel
theorem d_Model_init_312 : decode b_Model_init 312 = .ok (.iload_n 1, 1) := by decide +kernel
theorem d_Model_init_313 : decode b_Model_init 313 = .ok (.new 28, 3) := by decide +kernel
theorem d_Model_init_316 : decode b_Model_init 316 = .ok (.dup, 1) := by decide +kernel
theorem d_Model_init_317 : decode b_Model_init 317 = .ok (.aload_n 0, 1) := by decide +kernel
theorem d_Model_init_318 : decode b_Model_init 318 = .ok (.getfield 24, 3) := by decide +kernel
theorem d_Model_init_321 : decode b_Model_init 321 = .ok (.invokespecial 137, 3) := by decide +kernel
theorem d_Model_init_324 : decode b_Model_init 324 = .ok (.aastore, 1) := by decide +kernel
theorem d_Model_init_325 : decode b_Model_init 325 = .ok (.iinc 1 1, 3) := by decide +kernel
theorem d_Model_init_328 : decode b_Model_init 328 = .ok (.goto (-26), 3) := by decide +kernel
theorem d_Model_init_331 : decode b_Model_init 331 = .ok (.iconst 0, 1) := by decide +kernel
theorem d_Model_init_332 : decode b_Model_init 332 = .ok (.istore_n 1, 1) := by decide +kernel
theorem d_Model_init_333 : decode b_Model_init 333 = .ok (.iload_n 1, 1) := by decide +kernel
theorem d_Model_init_334 : decode b_Model_init 334 = .ok (.iconst 3, 1) := by decide +kernel
theorem d_Model_init_335 : decode b_Model_init 335 = .ok (.if_icmp .ge 22, 3) := by decide +kernel
theorem d_Model_init_338 : decode b_Model_init 338 = .ok (.aload_n 0, 1) := by decide +kernel
theorem d_Model_init_339 : decode b_Model_init 339 = .ok (.getfield 112, 3) := by decide +kernel
theorem d_Model_init_342 : decode b_Model_init 342 = .ok (.iload_n 1, 1) := by decide +kernel
theorem d_Model_init_343 : decode b_Model_init 343 = .ok (.new 105, 3) := by decide +kernel
theorem d_Model_init_346 : decode b_Model_init 346 = .ok (.dup, 1) := by decide +kernel
theorem d_Model_init_347 : decode b_Model_init 347 = .ok (.invokespecial 107, 3) := by decide +kernel
theorem d_Model_init_350 : decode b_Model_init 350 = .ok (.aastore, 1) := by decide +kernel
theorem d_Model_init_351 : decode b_Model_init 351 = .ok (.iinc 1 1, 3) := by decide +kernel
theorem d_Model_init_354 : decode b_Model_init 354 = .ok (.goto (-21), 3) := by decide +kernel
theorem d_Model_init_357 : decode b_Model_init 357 = .ok (.return_, 1) := by decide +kernel
theorem d_MCatalog_init_0 : decode b_MCatalog_init 0 = .ok (.aload_n 0, 1) := by decide +kernel
theorem d_MCatalog_init_1 : decode b_MCatalog_init 1 = .ok (.invokespecial 1, 3) := by decide +kernel
theorem d_MCatalog_init_4 : decode b_MCatalog_init 4 = .ok (.aload_n 0, 1) := by decide +kernel
theorem d_MCatalog_init_5 : decode b_MCatalog_init 5 = .ok (.bipush 8, 2) := by decide +kernel
theorem d_MCatalog_init_7 : decode b_MCatalog_init 7 = .ok (.newarray .int, 2) := by decide +kernel
theorem d_MCatalog_init_9 : decode b_MCatalog_init 9 = .ok (.putfield 9, 3) := by decide +kernel
theorem d_MCatalog_init_12 : decode b_MCatalog_init 12 = .ok (.aload_n 0, 1) := by decide +kernel
theorem d_MCatalog_init_13 : decode b_MCatalog_init 13 = .ok (.bipush 8, 2) := by decide +kernel
theorem d_MCatalog_init_15 : decode b_MCatalog_init 15 = .ok (.newarray .int, 2) := by decide +kernel
theorem d_MCatalog_init_17 : decode b_MCatalog_init 17 = .ok (.putfield 13, 3) := by decide +kernel
theorem d_MCatalog_init_20 : decode b_MCatalog_init 20 = .ok (.aload_n 0, 1) := by decide +kernel
theorem d_MCatalog_init_21 : decode b_MCatalog_init 21 = .ok (.sipush 128, 3) := by decide +kernel
theorem d_MCatalog_init_24 : decode b_MCatalog_init 24 = .ok (.newarray .byte, 2) := by decide +kernel
theorem d_MCatalog_init_26 : decode b_MCatalog_init 26 = .ok (.putfield 16, 3) := by decide +kernel
theorem d_MCatalog_init_29 : decode b_MCatalog_init 29 = .ok (.aload_n 0, 1) := by decide +kernel
theorem d_MCatalog_init_30 : decode b_MCatalog_init 30 = .ok (.bipush 8, 2) := by decide +kernel
theorem d_MCatalog_init_32 : decode b_MCatalog_init 32 = .ok (.newarray .int, 2) := by decide +kernel
theorem d_MCatalog_init_34 : decode b_MCatalog_init 34 = .ok (.putfield 20, 3) := by decide +kernel
theorem d_MCatalog_init_37 : decode b_MCatalog_init 37 = .ok (.aload_n 0, 1) := by decide +kernel
theorem d_MCatalog_init_38 : decode b_MCatalog_init 38 = .ok (.sipush 1024, 3) := by decide +kernel
theorem d_MCatalog_init_41 : decode b_MCatalog_init 41 = .ok (.newarray .byte, 2) := by decide +kernel
theorem d_MCatalog_init_43 : decode b_MCatalog_init 43 = .ok (.putfield 23, 3) := by decide +kernel
theorem d_MCatalog_init_46 : decode b_MCatalog_init 46 = .ok (.aload_n 0, 1) := by decide +kernel
theorem d_MCatalog_init_47 : decode b_MCatalog_init 47 = .ok (.bipush 64, 2) := by decide +kernel
theorem d_MCatalog_init_49 : decode b_MCatalog_init 49 = .ok (.newarray .int, 2) := by decide +kernel
theorem d_MCatalog_init_51 : decode b_MCatalog_init 51 = .ok (.putfield 26, 3) := by decide +kernel
theorem d_MCatalog_init_54 : decode b_MCatalog_init 54 = .ok (.aload_n 0, 1) := by decide +kernel
theorem d_MCatalog_init_55 : decode b_MCatalog_init 55 = .ok (.bipush 64, 2) := by decide +kernel
theorem d_MCatalog_init_57 : decode b_MCatalog_init 57 = .ok (.newarray .int, 2) := by decide +kernel
theorem d_MCatalog_init_59 : decode b_MCatalog_init 59 = .ok (.putfield 29, 3) := by decide +kernel
theorem d_MCatalog_init_62 : decode b_MCatalog_init 62 = .ok (.aload_n 0, 1) := by decide +kernel
theorem d_MCatalog_init_63 : decode b_MCatalog_init 63 = .ok (.bipush 64, 2) := by decide +kernel
theorem d_MCatalog_init_65 : decode b_MCatalog_init 65 = .ok (.newarray .boolean, 2) := by decide +kernel
theorem d_MCatalog_init_67 : decode b_MCatalog_init 67 = .ok (.putfield 32, 3) := by decide +kernel
theorem d_MCatalog_init_70 : decode b_MCatalog_init 70 = .ok (.aload_n 0, 1) := by decide +kernel
theorem d_MCatalog_init_71 : decode b_MCatalog_init 71 = .ok (.bipush 8, 2) := by decide +kernel
theorem d_MCatalog_init_73 : decode b_MCatalog_init 73 = .ok (.newarray .int, 2) := by decide +kernel
theorem d_MCatalog_init_75 : decode b_MCatalog_init 75 = .ok (.putfield 36, 3) := by decide +kernel
theorem d_MCatalog_init_78 : decode b_MCatalog_init 78 = .ok (.aload_n 0, 1) := by decide +kernel
theorem d_MCatalog_init_79 : decode b_MCatalog_init 79 = .ok (.bipush 8, 2) := by decide +kernel
theorem d_MCatalog_init_81 : decode b_MCatalog_init 81 = .ok (.newarray .int, 2) := by decide +kernel
theorem d_MCatalog_init_83 : decode b_MCatalog_init 83 = .ok (.putfield 39, 3) := by decide +kernel
theorem d_MCatalog_init_86 : decode b_MCatalog_init 86 = .ok (.aload_n 0, 1) := by decide +kernel
theorem d_MCatalog_init_87 : decode b_MCatalog_init 87 = .ok (.bipush 8, 2) := by decide +kernel
theorem d_MCatalog_init_89 : decode b_MCatalog_init 89 = .ok (.newarray .boolean, 2) := by decide +kernel
theorem d_MCatalog_init_91 : decode b_MCatalog_init 91 = .ok (.putfield 42, 3) := by decide +kernel
theorem d_MCatalog_init_94 : decode b_MCatalog_init 94 = .ok (.return_, 1) := by decide +kernel
theorem d_MSerial_init_0 : decode b_MSerial_init 0 = .ok (.aload_n 0, 1) := by decide +kernel
theorem d_MSerial_init_1 : decode b_MSerial_init 1 = .ok (.invokespecial 1, 3) := by decide +kernel
theorem d_MSerial_init_4 : decode b_MSerial_init 4 = .ok (.aload_n 0, 1) := by decide +kernel
theorem d_MSerial_init_5 : decode b_MSerial_init 5 = .ok (.bipush 64, 2) := by decide +kernel
theorem d_MSerial_init_7 : decode b_MSerial_init 7 = .ok (.newarray .int, 2) := by decide +kernel
theorem d_MSerial_init_9 : decode b_MSerial_init 9 = .ok (.putfield 9, 3) := by decide +kernel
theorem d_MSerial_init_12 : decode b_MSerial_init 12 = .ok (.aload_n 0, 1) := by decide +kernel
theorem d_MSerial_init_13 : decode b_MSerial_init 13 = .ok (.bipush 64, 2) := by decide +kernel
theorem d_MSerial_init_15 : decode b_MSerial_init 15 = .ok (.newarray .int, 2) := by decide +kernel
theorem d_MSerial_init_17 : decode b_MSerial_init 17 = .ok (.putfield 13, 3) := by decide +kernel
theorem d_MSerial_init_20 : decode b_MSerial_init 20 = .ok (.aload_n 0, 1) := by decide +kernel
theorem d_MSerial_init_21 : decode b_MSerial_init 21 = .ok (.bipush 64, 2) := by decide +kernel
theorem d_MSerial_init_23 : decode b_MSerial_init 23 = .ok (.newarray .int, 2) := by decide +kernel
theorem d_MSerial_init_25 : decode b_MSerial_init 25 = .ok (.putfield 16, 3) := by decide +kernel
theorem d_MSerial_init_28 : decode b_MSerial_init 28 = .ok (.aload_n 0, 1) := by decide +kernel
theorem d_MSerial_init_29 : decode b_MSerial_init 29 = .ok (.bipush 64, 2) := by decide +kernel
theorem d_MSerial_init_31 : decode b_MSerial_init 31 = .ok (.newarray .boolean, 2) := by decide +kernel
theorem d_MSerial_init_33 : decode b_MSerial_init 33 = .ok (.putfield 19, 3) := by decide +kernel
theorem d_MSerial_init_36 : decode b_MSerial_init 36 = .ok (.aload_n 0, 1) := by decide +kernel
theorem d_MSerial_init_37 : decode b_MSerial_init 37 = .ok (.bipush 64, 2) := by decide +kernel
theorem d_MSerial_init_39 : decode b_MSerial_init 39 = .ok (.newarray .int, 2) := by decide +kernel
theorem d_MSerial_init_41 : decode b_MSerial_init 41 = .ok (.putfield 23, 3) := by decide +kernel
theorem d_MSerial_init_44 : decode b_MSerial_init 44 = .ok (.aload_n 0, 1) := by decide +kernel
theorem d_MSerial_init_45 : decode b_MSerial_init 45 = .ok (.bipush 64, 2) := by decide +kernel
theorem d_MSerial_init_47 : decode b_MSerial_init 47 = .ok (.bipush 64, 2) := by decide +kernel
theorem d_MSerial_init_49 : decode b_MSerial_init 49 = .ok (.multianewarray 26 2, 4) := by decide +kernel
theorem d_MSerial_init_53 : decode b_MSerial_init 53 = .ok (.putfield 28, 3) := by decide +kernel
theorem d_MSerial_init_56 : decode b_MSerial_init 56 = .ok (.aload_n 0, 1) := by decide +kernel
theorem d_MSerial_init_57 : decode b_MSerial_init 57 = .ok (.bipush 64, 2) := by decide +kernel
theorem d_MSerial_init_59 : decode b_MSerial_init 59 = .ok (.newarray .int, 2) := by decide +kernel
theorem d_MSerial_init_61 : decode b_MSerial_init 61 = .ok (.putfield 31, 3) := by decide +kernel
theorem d_MSerial_init_64 : decode b_MSerial_init 64 = .ok (.aload_n 0, 1) := by decide +kernel
theorem d_MSerial_init_65 : decode b_MSerial_init 65 = .ok (.bipush 64, 2) := by decide +kernel
theorem d_MSerial_init_67 : decode b_MSerial_init 67 = .ok (.anewarray 34, 3) := by decide +kernel
theorem d_MSerial_init_70 : decode b_MSerial_init 70 = .ok (.putfield 36, 3) := by decide +kernel
theorem d_MSerial_init_73 : decode b_MSerial_init 73 = .ok (.aload_n 0, 1) := by decide +kernel
theorem d_MSerial_init_74 : decode b_MSerial_init 74 = .ok (.sipush 1100, 3) := by decide +kernel
theorem d_MSerial_init_77 : decode b_MSerial_init 77 = .ok (.newarray .int, 2) := by decide +kernel
theorem d_MSerial_init_79 : decode b_MSerial_init 79 = .ok (.putfield 40, 3) := by decide +kernel
theorem d_MSerial_init_82 : decode b_MSerial_init 82 = .ok (.aload_n 0, 1) := by decide +kernel
theorem d_MSerial_init_83 : decode b_MSerial_init 83 = .ok (.sipush 1100, 3) := by decide +kernel
theorem d_MSerial_init_86 : decode b_MSerial_init 86 = .ok (.newarray .int, 2) := by decide +kernel
theorem d_MSerial_init_88 : decode b_MSerial_init 88 = .ok (.putfield 43, 3) := by decide +kernel
theorem d_MSerial_init_91 : decode b_MSerial_init 91 = .ok (.aload_n 0, 1) := by decide +kernel
theorem d_MSerial_init_92 : decode b_MSerial_init 92 = .ok (.sipush 19800, 3) := by decide +kernel
theorem d_MSerial_init_95 : decode b_MSerial_init 95 = .ok (.newarray .long, 2) := by decide +kernel
theorem d_MSerial_init_97 : decode b_MSerial_init 97 = .ok (.putfield 46, 3) := by decide +kernel
theorem d_MSerial_init_100 : decode b_MSerial_init 100 = .ok (.aload_n 0, 1) := by decide +kernel
theorem d_MSerial_init_101 : decode b_MSerial_init 101 = .ok (.sipush 1100, 3) := by decide +kernel
theorem d_MSerial_init_104 : decode b_MSerial_init 104 = .ok (.newarray .boolean, 2) := by decide +kernel
theorem d_MSerial_init_106 : decode b_MSerial_init 106 = .ok (.putfield 50, 3) := by decide +kernel
theorem d_MSerial_init_109 : decode b_MSerial_init 109 = .ok (.aload_n 0, 1) := by decide +kernel
theorem d_MSerial_init_110 : decode b_MSerial_init 110 = .ok (.sipush 1100, 3) := by decide +kernel
theorem d_MSerial_init_113 : decode b_MSerial_init 113 = .ok (.newarray .int, 2) := by decide +kernel
theorem d_MSerial_init_115 : decode b_MSerial_init 115 = .ok (.putfield 53, 3) := by decide +kernel
theorem d_MSerial_init_118 : decode b_MSerial_init 118 = .ok (.iconst 0, 1) := by decide +kernel
theorem d_MSerial_init_119 : decode b_MSerial_init 119 = .ok (.istore_n 1, 1) := by decide +kernel
theorem d_MSerial_init_120 : decode b_MSerial_init 120 = .ok (.iload_n 1, 1) := by decide +kernel
theorem d_MSerial_init_121 : decode b_MSerial_init 121 = .ok (.bipush 64, 2) := by decide +kernel
theorem d_MSerial_init_123 : decode b_MSerial_init 123 = .ok (.if_icmp .ge 49, 3) := by decide +kernel
theorem d_MSerial_init_126 : decode b_MSerial_init 126 = .ok (.aload_n 0, 1) := by decide +kernel
theorem d_MSerial_init_127 : decode b_MSerial_init 127 = .ok (.getfield 36, 3) := by decide +kernel
theorem d_MSerial_init_130 : decode b_MSerial_init 130 = .ok (.iload_n 1, 1) := by decide +kernel
theorem d_MSerial_init_131 : decode b_MSerial_init 131 = .ok (.bipush 64, 2) := by decide +kernel
theorem d_MSerial_init_133 : decode b_MSerial_init 133 = .ok (.anewarray 56, 3) := by decide +kernel
theorem d_MSerial_init_136 : decode b_MSerial_init 136 = .ok (.aastore, 1) := by decide +kernel
theorem d_MSerial_init_137 : decode b_MSerial_init 137 = .ok (.iconst 0, 1) := by decide +kernel
theorem d_MSerial_init_138 : decode b_MSerial_init 138 = .ok (.istore_n 2, 1) := by decide +kernel
theorem d_MSerial_init_139 : decode b_MSerial_init 139 = .ok (.iload_n 2, 1) := by decide +kernel
theorem d_MSerial_init_140 : decode b_MSerial_init 140 = .ok (.bipush 64, 2) := by decide +kernel
theorem d_MSerial_init_142 : decode b_MSerial_init 142 = .ok (.if_icmp .ge 24, 3) := by decide +kernel
theorem d_MSerial_init_145 : decode b_MSerial_init 145 = .ok (.aload_n 0, 1) := by decide +kernel
theorem d_MSerial_init_146 : decode b_MSerial_init 146 = .ok (.getfield 36, 3) := by decide +kernel
theorem d_MSerial_init_149 : decode b_MSerial_init 149 = .ok (.iload_n 1, 1) := by decide +kernel
theorem d_MSerial_init_150 : decode b_MSerial_init 150 = .ok (.aaload, 1) := by decide +kernel
theorem d_MSerial_init_151 : decode b_MSerial_init 151 = .ok (.iload_n 2, 1) := by decide +kernel
theorem d_MSerial_init_152 : decode b_MSerial_init 152 = .ok (.new 56, 3) := by decide +kernel
theorem d_MSerial_init_155 : decode b_MSerial_init 155 = .ok (.dup, 1) := by decide +kernel
theorem d_MSerial_init_156 : decode b_MSerial_init 156 = .ok (.invokespecial 58, 3) := by decide +kernel
theorem d_MSerial_init_159 : decode b_MSerial_init 159 = .ok (.aastore, 1) := by decide +kernel
theorem d_MSerial_init_160 : decode b_MSerial_init 160 = .ok (.iinc 2 1, 3) := by decide +kernel
