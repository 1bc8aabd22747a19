theorem d_L_law_425 : decode code 425 = .ok (.iload_n 3, 1) := by decide +kernel
theorem d_L_law_426 : decode code 426 = .ok (.iconst 2, 1) := by decide +kernel
theorem d_L_law_427 : decode code 427 = .ok (.iadd, 1) := by decide +kernel
theorem d_L_law_428 : decode code 428 = .ok (.iaload, 1) := by decide +kernel
theorem d_L_law_429 : decode code 429 = .ok (.invokevirtual 73, 3) := by decide +kernel
theorem d_L_law_432 : decode code 432 = .ok (.aload_n 2, 1) := by decide +kernel
theorem d_L_law_433 : decode code 433 = .ok (.aload_n 0, 1) := by decide +kernel
theorem d_L_law_434 : decode code 434 = .ok (.iload_n 3, 1) := by decide +kernel
theorem d_L_law_435 : decode code 435 = .ok (.iconst 1, 1) := by decide +kernel
theorem d_L_law_436 : decode code 436 = .ok (.iadd, 1) := by decide +kernel
theorem d_L_law_437 : decode code 437 = .ok (.iaload, 1) := by decide +kernel
theorem d_L_law_438 : decode code 438 = .ok (.aload_n 0, 1) := by decide +kernel
theorem d_L_law_439 : decode code 439 = .ok (.iload_n 3, 1) := by decide +kernel
theorem d_L_law_440 : decode code 440 = .ok (.iconst 2, 1) := by decide +kernel
theorem d_L_law_441 : decode code 441 = .ok (.iadd, 1) := by decide +kernel
theorem d_L_law_442 : decode code 442 = .ok (.iaload, 1) := by decide +kernel
theorem d_L_law_443 : decode code 443 = .ok (.invokevirtual 76, 3) := by decide +kernel
theorem d_L_law_446 : decode code 446 = .ok (.if_icmp .eq 38, 3) := by decide +kernel
theorem d_L_law_449 : decode code 449 = .ok (.iconst 0, 1) := by decide +kernel
theorem d_L_law_450 : decode code 450 = .ok (.ireturn, 1) := by decide +kernel
theorem d_L_law_451 : decode code 451 = .ok (.aload_n 1, 1) := by decide +kernel
theorem d_L_law_452 : decode code 452 = .ok (.aload_n 0, 1) := by decide +kernel
theorem d_L_law_453 : decode code 453 = .ok (.iload_n 3, 1) := by decide +kernel
theorem d_L_law_454 : decode code 454 = .ok (.iconst 1, 1) := by decide +kernel
theorem d_L_law_455 : decode code 455 = .ok (.iadd, 1) := by decide +kernel
theorem d_L_law_456 : decode code 456 = .ok (.iaload, 1) := by decide +kernel
theorem d_L_law_457 : decode code 457 = .ok (.aload_n 0, 1) := by decide +kernel
theorem d_L_law_458 : decode code 458 = .ok (.iload_n 3, 1) := by decide +kernel
theorem d_L_law_459 : decode code 459 = .ok (.iconst 2, 1) := by decide +kernel
theorem d_L_law_460 : decode code 460 = .ok (.iadd, 1) := by decide +kernel
theorem d_L_law_461 : decode code 461 = .ok (.iaload, 1) := by decide +kernel
theorem d_L_law_462 : decode code 462 = .ok (.invokevirtual 77, 3) := by decide +kernel
theorem d_L_law_465 : decode code 465 = .ok (.aload_n 2, 1) := by decide +kernel
theorem d_L_law_466 : decode code 466 = .ok (.aload_n 0, 1) := by decide +kernel
theorem d_L_law_467 : decode code 467 = .ok (.iload_n 3, 1) := by decide +kernel
theorem d_L_law_468 : decode code 468 = .ok (.iconst 1, 1) := by decide +kernel
theorem d_L_law_469 : decode code 469 = .ok (.iadd, 1) := by decide +kernel
theorem d_L_law_470 : decode code 470 = .ok (.iaload, 1) := by decide +kernel
theorem d_L_law_471 : decode code 471 = .ok (.aload_n 0, 1) := by decide +kernel
theorem d_L_law_472 : decode code 472 = .ok (.iload_n 3, 1) := by decide +kernel
theorem d_L_law_473 : decode code 473 = .ok (.iconst 2, 1) := by decide +kernel
theorem d_L_law_474 : decode code 474 = .ok (.iadd, 1) := by decide +kernel
theorem d_L_law_475 : decode code 475 = .ok (.iaload, 1) := by decide +kernel
theorem d_L_law_476 : decode code 476 = .ok (.invokevirtual 80, 3) := by decide +kernel
theorem d_L_law_479 : decode code 479 = .ok (.if_icmp .eq 5, 3) := by decide +kernel
theorem d_L_law_482 : decode code 482 = .ok (.iconst 0, 1) := by decide +kernel
theorem d_L_law_483 : decode code 483 = .ok (.ireturn, 1) := by decide +kernel
theorem d_L_law_484 : decode code 484 = .ok (.iinc 3 5, 3) := by decide +kernel
theorem d_L_law_487 : decode code 487 = .ok (.goto (-449), 3) := by decide +kernel
theorem d_L_law_490 : decode code 490 = .ok (.iconst 1, 1) := by decide +kernel
theorem d_L_law_491 : decode code 491 = .ok (.ireturn, 1) := by decide +kernel
theorem d_M_init_0 : decode b_M_init 0 = .ok (.aload_n 0, 1) := by decide +kernel
theorem d_M_init_1 : decode b_M_init 1 = .ok (.invokespecial 1, 3) := by decide +kernel
theorem d_M_init_4 : decode b_M_init 4 = .ok (.aload_n 0, 1) := by decide +kernel
theorem d_M_init_5 : decode b_M_init 5 = .ok (.iconst 3, 1) := by decide +kernel
theorem d_M_init_6 : decode b_M_init 6 = .ok (.newarray .int, 2) := by decide +kernel
theorem d_M_init_8 : decode b_M_init 8 = .ok (.putfield 7, 3) := by decide +kernel
theorem d_M_init_11 : decode b_M_init 11 = .ok (.aload_n 0, 1) := by decide +kernel
theorem d_M_init_12 : decode b_M_init 12 = .ok (.sipush 1536, 3) := by decide +kernel
theorem d_M_init_15 : decode b_M_init 15 = .ok (.newarray .int, 2) := by decide +kernel
theorem d_M_init_17 : decode b_M_init 17 = .ok (.putfield 13, 3) := by decide +kernel
theorem d_M_init_20 : decode b_M_init 20 = .ok (.aload_n 0, 1) := by decide +kernel
theorem d_M_init_21 : decode b_M_init 21 = .ok (.sipush 1536, 3) := by decide +kernel
theorem d_M_init_24 : decode b_M_init 24 = .ok (.newarray .int, 2) := by decide +kernel
theorem d_M_init_26 : decode b_M_init 26 = .ok (.putfield 16, 3) := by decide +kernel
theorem d_M_init_29 : decode b_M_init 29 = .ok (.aload_n 0, 1) := by decide +kernel
theorem d_M_init_30 : decode b_M_init 30 = .ok (.sipush 1536, 3) := by decide +kernel
theorem d_M_init_33 : decode b_M_init 33 = .ok (.newarray .int, 2) := by decide +kernel
theorem d_M_init_35 : decode b_M_init 35 = .ok (.putfield 19, 3) := by decide +kernel
theorem d_M_init_38 : decode b_M_init 38 = .ok (.aload_n 0, 1) := by decide +kernel
theorem d_M_init_39 : decode b_M_init 39 = .ok (.iconst 3, 1) := by decide +kernel
theorem d_M_init_40 : decode b_M_init 40 = .ok (.newarray .int, 2) := by decide +kernel
theorem d_M_init_42 : decode b_M_init 42 = .ok (.putfield 22, 3) := by decide +kernel
theorem d_M_init_45 : decode b_M_init 45 = .ok (.aload_n 0, 1) := by decide +kernel
theorem d_M_init_46 : decode b_M_init 46 = .ok (.iconst 3, 1) := by decide +kernel
theorem d_M_init_47 : decode b_M_init 47 = .ok (.newarray .int, 2) := by decide +kernel
theorem d_M_init_49 : decode b_M_init 49 = .ok (.putfield 25, 3) := by decide +kernel
theorem d_M_init_52 : decode b_M_init 52 = .ok (.aload_n 0, 1) := by decide +kernel
theorem d_M_init_53 : decode b_M_init 53 = .ok (.iconst 3, 1) := by decide +kernel
theorem d_M_init_54 : decode b_M_init 54 = .ok (.newarray .int, 2) := by decide +kernel
theorem d_M_init_56 : decode b_M_init 56 = .ok (.putfield 28, 3) := by decide +kernel
theorem d_M_init_59 : decode b_M_init 59 = .ok (.aload_n 0, 1) := by decide +kernel
theorem d_M_init_60 : decode b_M_init 60 = .ok (.iconst 3, 1) := by decide +kernel
theorem d_M_init_61 : decode b_M_init 61 = .ok (.newarray .int, 2) := by decide +kernel
theorem d_M_init_63 : decode b_M_init 63 = .ok (.putfield 31, 3) := by decide +kernel
theorem d_M_init_66 : decode b_M_init 66 = .ok (.aload_n 0, 1) := by decide +kernel
theorem d_M_init_67 : decode b_M_init 67 = .ok (.iconst 3, 1) := by decide +kernel
theorem d_M_init_68 : decode b_M_init 68 = .ok (.newarray .int, 2) := by decide +kernel
theorem d_M_init_70 : decode b_M_init 70 = .ok (.putfield 34, 3) := by decide +kernel
theorem d_M_init_73 : decode b_M_init 73 = .ok (.aload_n 0, 1) := by decide +kernel
theorem d_M_init_74 : decode b_M_init 74 = .ok (.iconst 3, 1) := by decide +kernel
theorem d_M_init_75 : decode b_M_init 75 = .ok (.newarray .int, 2) := by decide +kernel
theorem d_M_init_77 : decode b_M_init 77 = .ok (.putfield 37, 3) := by decide +kernel
theorem d_M_init_80 : decode b_M_init 80 = .ok (.aload_n 0, 1) := by decide +kernel
theorem d_M_init_81 : decode b_M_init 81 = .ok (.bipush 16, 2) := by decide +kernel
theorem d_M_init_83 : decode b_M_init 83 = .ok (.newarray .int, 2) := by decide +kernel
theorem d_M_init_85 : decode b_M_init 85 = .ok (.putfield 40, 3) := by decide +kernel
theorem d_M_init_88 : decode b_M_init 88 = .ok (.aload_n 0, 1) := by decide +kernel
theorem d_M_init_89 : decode b_M_init 89 = .ok (.bipush 16, 2) := by decide +kernel
theorem d_M_init_91 : decode b_M_init 91 = .ok (.newarray .int, 2) := by decide +kernel
theorem d_M_init_93 : decode b_M_init 93 = .ok (.putfield 43, 3) := by decide +kernel
theorem d_M_init_96 : decode b_M_init 96 = .ok (.aload_n 0, 1) := by decide +kernel
theorem d_M_init_97 : decode b_M_init 97 = .ok (.iconst 3, 1) := by decide +kernel
theorem d_M_init_98 : decode b_M_init 98 = .ok (.newarray .boolean, 2) := by decide +kernel
theorem d_M_init_100 : decode b_M_init 100 = .ok (.putfield 46, 3) := by decide +kernel
theorem d_M_init_103 : decode b_M_init 103 = .ok (.aload_n 0, 1) := by decide +kernel
theorem d_M_init_104 : decode b_M_init 104 = .ok (.iconst 3, 1) := by decide +kernel
theorem d_M_init_105 : decode b_M_init 105 = .ok (.newarray .int, 2) := by decide +kernel
theorem d_M_init_107 : decode b_M_init 107 = .ok (.putfield 50, 3) := by decide +kernel
theorem d_M_init_110 : decode b_M_init 110 = .ok (.aload_n 0, 1) := by decide +kernel
theorem d_M_init_111 : decode b_M_init 111 = .ok (.iconst 3, 1) := by decide +kernel
theorem d_M_init_112 : decode b_M_init 112 = .ok (.newarray .boolean, 2) := by decide +kernel
theorem d_M_init_114 : decode b_M_init 114 = .ok (.putfield 53, 3) := by decide +kernel
theorem d_M_init_117 : decode b_M_init 117 = .ok (.aload_n 0, 1) := by decide +kernel
theorem d_M_init_118 : decode b_M_init 118 = .ok (.iconst 3, 1) := by decide +kernel
theorem d_M_init_119 : decode b_M_init 119 = .ok (.newarray .int, 2) := by decide +kernel
theorem d_M_init_121 : decode b_M_init 121 = .ok (.putfield 56, 3) := by decide +kernel
theorem d_M_init_124 : decode b_M_init 124 = .ok (.aload_n 0, 1) := by decide +kernel
theorem d_M_init_125 : decode b_M_init 125 = .ok (.iconst 3, 1) := by decide +kernel
theorem d_M_init_126 : decode b_M_init 126 = .ok (.newarray .int, 2) := by decide +kernel
theorem d_M_init_128 : decode b_M_init 128 = .ok (.putfield 59, 3) := by decide +kernel
theorem d_M_init_131 : decode b_M_init 131 = .ok (.aload_n 0, 1) := by decide +kernel
theorem d_M_init_132 : decode b_M_init 132 = .ok (.iconst 3, 1) := by decide +kernel
theorem d_M_init_133 : decode b_M_init 133 = .ok (.newarray .int, 2) := by decide +kernel
theorem d_M_init_135 : decode b_M_init 135 = .ok (.putfield 62, 3) := by decide +kernel
theorem d_M_init_138 : decode b_M_init 138 = .ok (.aload_n 0, 1) := by decide +kernel
theorem d_M_init_139 : decode b_M_init 139 = .ok (.sipush 180, 3) := by decide +kernel
theorem d_M_init_142 : decode b_M_init 142 = .ok (.newarray .int, 2) := by decide +kernel
theorem d_M_init_144 : decode b_M_init 144 = .ok (.putfield 65, 3) := by decide +kernel
theorem d_M_init_147 : decode b_M_init 147 = .ok (.aload_n 0, 1) := by decide +kernel
theorem d_M_init_148 : decode b_M_init 148 = .ok (.sipush 180, 3) := by decide +kernel
theorem d_M_init_151 : decode b_M_init 151 = .ok (.newarray .int, 2) := by decide +kernel
theorem d_M_init_153 : decode b_M_init 153 = .ok (.putfield 68, 3) := by decide +kernel
theorem d_M_init_156 : decode b_M_init 156 = .ok (.aload_n 0, 1) := by decide +kernel
theorem d_M_init_157 : decode b_M_init 157 = .ok (.iconst 3, 1) := by decide +kernel
theorem d_M_init_158 : decode b_M_init 158 = .ok (.newarray .int, 2) := by decide +kernel
theorem d_M_init_160 : decode b_M_init 160 = .ok (.putfield 71, 3) := by decide +kernel
theorem d_M_init_163 : decode b_M_init 163 = .ok (.aload_n 0, 1) := by decide +kernel
theorem d_M_init_164 : decode b_M_init 164 = .ok (.iconst 3, 1) := by decide +kernel
theorem d_M_init_165 : decode b_M_init 165 = .ok (.newarray .int, 2) := by decide +kernel
theorem d_M_init_167 : decode b_M_init 167 = .ok (.putfield 74, 3) := by decide +kernel
theorem d_M_init_170 : decode b_M_init 170 = .ok (.aload_n 0, 1) := by decide +kernel
theorem d_M_init_171 : decode b_M_init 171 = .ok (.iconst 3, 1) := by decide +kernel
theorem d_M_init_172 : decode b_M_init 172 = .ok (.newarray .int, 2) := by decide +kernel
theorem d_M_init_174 : decode b_M_init 174 = .ok (.putfield 77, 3) := by decide +kernel
theorem d_M_init_177 : decode b_M_init 177 = .ok (.aload_n 0, 1) := by decide +kernel
theorem d_M_init_178 : decode b_M_init 178 = .ok (.bipush 6, 2) := by decide +kernel
theorem d_M_init_180 : decode b_M_init 180 = .ok (.newarray .int, 2) := by decide +kernel
theorem d_M_init_182 : decode b_M_init 182 = .ok (.putfield 80, 3) := by decide +kernel
theorem d_M_init_185 : decode b_M_init 185 = .ok (.aload_n 0, 1) := by decide +kernel
theorem d_M_init_186 : decode b_M_init 186 = .ok (.iload_n 1, 1) := by decide +kernel
theorem d_M_init_187 : decode b_M_init 187 = .ok (.iconst 1, 1) := by decide +kernel
theorem d_M_init_188 : decode b_M_init 188 = .ok (.if_icmp .ge 7, 3) := by decide +kernel
theorem d_M_init_191 : decode b_M_init 191 = .ok (.iconst 1, 1) := by decide +kernel
theorem d_M_init_192 : decode b_M_init 192 = .ok (.goto 15, 3) := by decide +kernel
theorem d_M_init_195 : decode b_M_init 195 = .ok (.iload_n 1, 1) := by decide +kernel
theorem d_M_init_196 : decode b_M_init 196 = .ok (.bipush 14, 2) := by decide +kernel
theorem d_M_init_198 : decode b_M_init 198 = .ok (.if_icmp .le 8, 3) := by decide +kernel
theorem d_M_init_201 : decode b_M_init 201 = .ok (.bipush 14, 2) := by decide +kernel
theorem d_M_init_203 : decode b_M_init 203 = .ok (.goto 4, 3) := by decide +kernel
theorem d_M_init_206 : decode b_M_init 206 = .ok (.iload_n 1, 1) := by decide +kernel
theorem d_M_init_207 : decode b_M_init 207 = .ok (.putfield 83, 3) := by decide +kernel
theorem d_M_init_210 : decode b_M_init 210 = .ok (.aload_n 0, 1) := by decide +kernel
theorem d_M_init_211 : decode b_M_init 211 = .ok (.iload_n 2, 1) := by decide +kernel
theorem d_M_init_212 : decode b_M_init 212 = .ok (.bipush 20, 2) := by decide +kernel
theorem d_M_init_214 : decode b_M_init 214 = .ok (.if_icmp .ge 8, 3) := by decide +kernel
theorem d_M_init_217 : decode b_M_init 217 = .ok (.bipush 20, 2) := by decide +kernel
theorem d_M_init_219 : decode b_M_init 219 = .ok (.goto 17, 3) := by decide +kernel
theorem d_M_init_222 : decode b_M_init 222 = .ok (.iload_n 2, 1) := by decide +kernel
theorem d_M_init_223 : decode b_M_init 223 = .ok (.sipush 200, 3) := by decide +kernel
theorem d_M_init_226 : decode b_M_init 226 = .ok (.if_icmp .le 9, 3) := by decide +kernel
theorem d_M_init_229 : decode b_M_init 229 = .ok (.sipush 200, 3) := by decide +kernel
theorem d_M_init_232 : decode b_M_init 232 = .ok (.goto 4, 3) := by decide +kernel
theorem d_M_init_235 : decode b_M_init 235 = .ok (.iload_n 2, 1) := by decide +kernel
theorem d_M_init_236 : decode b_M_init 236 = .ok (.putfield 87, 3) := by decide +kernel
theorem d_M_init_239 : decode b_M_init 239 = .ok (.return_, 1) := by decide +kernel
theorem d_M_within_0 : decode b_M_within 0 = .ok (.iload_n 0, 1) := by decide +kernel
theorem d_M_within_1 : decode b_M_within 1 = .ok (.iload_n 1, 1) := by decide +kernel
theorem d_M_within_2 : decode b_M_within 2 = .ok (.if_icmp .lt 12, 3) := by decide +kernel
theorem d_M_within_5 : decode b_M_within 5 = .ok (.iload_n 0, 1) := by decide +kernel
theorem d_M_within_6 : decode b_M_within 6 = .ok (.iload_n 2, 1) := by decide +kernel
theorem d_M_within_7 : decode b_M_within 7 = .ok (.if_icmp .gt 7, 3) := by decide +kernel
theorem d_M_within_10 : decode b_M_within 10 = .ok (.iconst 1, 1) := by decide +kernel
theorem d_M_within_11 : decode b_M_within 11 = .ok (.goto 4, 3) := by decide +kernel
theorem d_M_within_14 : decode b_M_within 14 = .ok (.iconst 0, 1) := by decide +kernel
theorem d_M_within_15 : decode b_M_within 15 = .ok (.ireturn, 1) := by decide +kernel
theorem d_M_add_0 : decode b_M_add 0 = .ok (.iload_n 1, 1) := by decide +kernel
theorem d_M_add_1 : decode b_M_add 1 = .ok (.iconst 0, 1) := by decide +kernel
theorem d_M_add_2 : decode b_M_add 2 = .ok (.iconst 2, 1) := by decide +kernel
theorem d_M_add_3 : decode b_M_add 3 = .ok (.invokestatic 90, 3) := by decide +kernel
theorem d_M_add_6 : decode b_M_add 6 = .ok (.ifCond .eq 25, 3) := by decide +kernel
theorem d_M_add_9 : decode b_M_add 9 = .ok (.iload_n 2, 1) := by decide +kernel
theorem d_M_add_10 : decode b_M_add 10 = .ok (.iconst 1, 1) := by decide +kernel
theorem d_M_add_11 : decode b_M_add 11 = .ok (.bipush 60, 2) := by decide +kernel
theorem d_M_add_13 : decode b_M_add 13 = .ok (.invokestatic 90, 3) := by decide +kernel
theorem d_M_add_16 : decode b_M_add 16 = .ok (.ifCond .eq 15, 3) := by decide +kernel
theorem d_M_add_19 : decode b_M_add 19 = .ok (.iload 4, 2) := by decide +kernel
theorem d_M_add_21 : decode b_M_add 21 = .ok (.iconst 0, 1) := by decide +kernel
theorem d_M_add_22 : decode b_M_add 22 = .ok (.sipush 255, 3) := by decide +kernel
theorem d_M_add_25 : decode b_M_add 25 = .ok (.invokestatic 90, 3) := by decide +kernel
theorem d_M_add_28 : decode b_M_add 28 = .ok (.ifCond .ne 5, 3) := by decide +kernel
theorem d_M_add_31 : decode b_M_add 31 = .ok (.iconst (-1), 1) := by decide +kernel
theorem d_M_add_32 : decode b_M_add 32 = .ok (.ireturn, 1) := by decide +kernel
theorem d_M_add_33 : decode b_M_add 33 = .ok (.aload_n 0, 1) := by decide +kernel
theorem d_M_add_34 : decode b_M_add 34 = .ok (.getfield 22, 3) := by decide +kernel
theorem d_M_add_37 : decode b_M_add 37 = .ok (.iload_n 1, 1) := by decide +kernel
theorem d_M_add_38 : decode b_M_add 38 = .ok (.iaload, 1) := by decide +kernel
theorem d_M_add_39 : decode b_M_add 39 = .ok (.istore 5, 2) := by decide +kernel
theorem d_M_add_41 : decode b_M_add 41 = .ok (.sipush 512, 3) := by decide +kernel
theorem d_M_add_44 : decode b_M_add 44 = .ok (.iload_n 1, 1) := by decide +kernel
theorem d_M_add_45 : decode b_M_add 45 = .ok (.imul, 1) := by decide +kernel
theorem d_M_add_46 : decode b_M_add 46 = .ok (.iload 5, 2) := by decide +kernel
theorem d_M_add_48 : decode b_M_add 48 = .ok (.iadd, 1) := by decide +kernel
theorem d_M_add_49 : decode b_M_add 49 = .ok (.istore 6, 2) := by decide +kernel
theorem d_M_add_51 : decode b_M_add 51 = .ok (.iload_n 3, 1) := by decide +kernel
theorem d_M_add_52 : decode b_M_add 52 = .ok (.aload_n 0, 1) := by decide +kernel
theorem d_M_add_53 : decode b_M_add 53 = .ok (.getfield 94, 3) := by decide +kernel
theorem d_M_add_56 : decode b_M_add 56 = .ok (.iconst 1, 1) := by decide +kernel
theorem d_M_add_57 : decode b_M_add 57 = .ok (.iadd, 1) := by decide +kernel
theorem d_M_add_58 : decode b_M_add 58 = .ok (.aload_n 0, 1) := by decide +kernel
theorem d_M_add_59 : decode b_M_add 59 = .ok (.getfield 94, 3) := by decide +kernel
theorem d_M_add_62 : decode b_M_add 62 = .ok (.sipush 1000, 3) := by decide +kernel
theorem d_M_add_65 : decode b_M_add 65 = .ok (.iadd, 1) := by decide +kernel
theorem d_M_add_66 : decode b_M_add 66 = .ok (.invokestatic 90, 3) := by decide +kernel
theorem d_M_add_69 : decode b_M_add 69 = .ok (.ifCond .eq 21, 3) := by decide +kernel
theorem d_M_add_72 : decode b_M_add 72 = .ok (.iload 5, 2) := by decide +kernel
theorem d_M_add_74 : decode b_M_add 74 = .ok (.ifCond .le 19, 3) := by decide +kernel
theorem d_M_add_77 : decode b_M_add 77 = .ok (.iload_n 3, 1) := by decide +kernel
theorem d_M_add_78 : decode b_M_add 78 = .ok (.aload_n 0, 1) := by decide +kernel
theorem d_M_add_79 : decode b_M_add 79 = .ok (.getfield 16, 3) := by decide +kernel
theorem d_M_add_82 : decode b_M_add 82 = .ok (.iload 6, 2) := by decide +kernel
theorem d_M_add_84 : decode b_M_add 84 = .ok (.iconst 1, 1) := by decide +kernel
theorem d_M_add_85 : decode b_M_add 85 = .ok (.isub, 1) := by decide +kernel
theorem d_M_add_86 : decode b_M_add 86 = .ok (.iaload, 1) := by decide +kernel
theorem d_M_add_87 : decode b_M_add 87 = .ok (.if_icmp .gt 6, 3) := by decide +kernel
theorem d_M_add_90 : decode b_M_add 90 = .ok (.bipush (-3), 2) := by decide +kernel
theorem d_M_add_92 : decode b_M_add 92 = .ok (.ireturn, 1) := by decide +kernel
theorem d_M_add_93 : decode b_M_add 93 = .ok (.iload 5, 2) := by decide +kernel
theorem d_M_add_95 : decode b_M_add 95 = .ok (.aload_n 0, 1) := by decide +kernel
theorem d_M_add_96 : decode b_M_add 96 = .ok (.getfield 28, 3) := by decide +kernel
theorem d_M_add_99 : decode b_M_add 99 = .ok (.iload_n 1, 1) := by decide +kernel
theorem d_M_add_100 : decode b_M_add 100 = .ok (.iaload, 1) := by decide +kernel
theorem d_M_add_101 : decode b_M_add 101 = .ok (.isub, 1) := by decide +kernel
theorem d_M_add_102 : decode b_M_add 102 = .ok (.bipush 8, 2) := by decide +kernel
theorem d_M_add_104 : decode b_M_add 104 = .ok (.if_icmp .lt 6, 3) := by decide +kernel
theorem d_M_add_107 : decode b_M_add 107 = .ok (.bipush (-2), 2) := by decide +kernel
theorem d_M_add_109 : decode b_M_add 109 = .ok (.ireturn, 1) := by decide +kernel
theorem d_M_add_110 : decode b_M_add 110 = .ok (.aload_n 0, 1) := by decide +kernel
theorem d_M_add_111 : decode b_M_add 111 = .ok (.getfield 13, 3) := by decide +kernel
theorem d_M_add_114 : decode b_M_add 114 = .ok (.iload 6, 2) := by decide +kernel
theorem d_M_add_116 : decode b_M_add 116 = .ok (.iload_n 2, 1) := by decide +kernel
theorem d_M_add_117 : decode b_M_add 117 = .ok (.iastore, 1) := by decide +kernel
theorem d_M_add_118 : decode b_M_add 118 = .ok (.aload_n 0, 1) := by decide +kernel
theorem d_M_add_119 : decode b_M_add 119 = .ok (.getfield 16, 3) := by decide +kernel
theorem d_M_add_122 : decode b_M_add 122 = .ok (.iload 6, 2) := by decide +kernel
theorem d_M_add_124 : decode b_M_add 124 = .ok (.iload_n 3, 1) := by decide +kernel
theorem d_M_add_125 : decode b_M_add 125 = .ok (.iastore, 1) := by decide +kernel
theorem d_M_add_126 : decode b_M_add 126 = .ok (.aload_n 0, 1) := by decide +kernel
theorem d_M_add_127 : decode b_M_add 127 = .ok (.getfield 19, 3) := by decide +kernel
theorem d_M_add_130 : decode b_M_add 130 = .ok (.iload 6, 2) := by decide +kernel
theorem d_M_add_132 : decode b_M_add 132 = .ok (.iload 4, 2) := by decide +kernel
theorem d_M_add_134 : decode b_M_add 134 = .ok (.iastore, 1) := by decide +kernel
theorem d_M_add_135 : decode b_M_add 135 = .ok (.aload_n 0, 1) := by decide +kernel
theorem d_M_add_136 : decode b_M_add 136 = .ok (.getfield 22, 3) := by decide +kernel
theorem d_M_add_139 : decode b_M_add 139 = .ok (.iload_n 1, 1) := by decide +kernel
theorem d_M_add_140 : decode b_M_add 140 = .ok (.iload 5, 2) := by decide +kernel
theorem d_M_add_142 : decode b_M_add 142 = .ok (.iconst 1, 1) := by decide +kernel
theorem d_M_add_143 : decode b_M_add 143 = .ok (.iadd, 1) := by decide +kernel
theorem d_M_add_144 : decode b_M_add 144 = .ok (.iastore, 1) := by decide +kernel
theorem d_M_add_145 : decode b_M_add 145 = .ok (.iload 5, 2) := by decide +kernel
theorem d_M_add_147 : decode b_M_add 147 = .ok (.iconst 1, 1) := by decide +kernel
theorem d_M_add_148 : decode b_M_add 148 = .ok (.iadd, 1) := by decide +kernel
theorem d_M_add_149 : decode b_M_add 149 = .ok (.aload_n 0, 1) := by decide +kernel
theorem d_M_add_150 : decode b_M_add 150 = .ok (.getfield 28, 3) := by decide +kernel
theorem d_M_add_153 : decode b_M_add 153 = .ok (.iload_n 1, 1) := by decide +kernel
theorem d_M_add_154 : decode b_M_add 154 = .ok (.iaload, 1) := by decide +kernel
theorem d_M_add_155 : decode b_M_add 155 = .ok (.isub, 1) := by decide +kernel
theorem d_M_add_156 : decode b_M_add 156 = .ok (.ireturn, 1) := by decide +kernel
theorem d_M_high_0 : decode b_M_high 0 = .ok (.aload_n 0, 1) := by decide +kernel
theorem d_M_high_1 : decode b_M_high 1 = .ok (.getfield 28, 3) := by decide +kernel
theorem d_M_high_4 : decode b_M_high 4 = .ok (.iload_n 1, 1) := by decide +kernel
theorem d_M_high_5 : decode b_M_high 5 = .ok (.iaload, 1) := by decide +kernel
theorem d_M_high_6 : decode b_M_high 6 = .ok (.aload_n 0, 1) := by decide +kernel
theorem d_M_high_7 : decode b_M_high 7 = .ok (.getfield 22, 3) := by decide +kernel
theorem d_M_high_10 : decode b_M_high 10 = .ok (.iload_n 1, 1) := by decide +kernel
theorem d_M_high_11 : decode b_M_high 11 = .ok (.iaload, 1) := by decide +kernel
theorem d_M_high_12 : decode b_M_high 12 = .ok (.if_icmp .ge 12, 3) := by decide +kernel
theorem d_M_high_15 : decode b_M_high 15 = .ok (.aload_n 0, 1) := by decide +kernel
theorem d_M_high_16 : decode b_M_high 16 = .ok (.getfield 31, 3) := by decide +kernel
theorem d_M_high_19 : decode b_M_high 19 = .ok (.iload_n 1, 1) := by decide +kernel
theorem d_M_high_20 : decode b_M_high 20 = .ok (.iaload, 1) := by decide +kernel
theorem d_M_high_21 : decode b_M_high 21 = .ok (.goto 4, 3) := by decide +kernel
theorem d_M_high_24 : decode b_M_high 24 = .ok (.iconst 0, 1) := by decide +kernel
theorem d_M_high_25 : decode b_M_high 25 = .ok (.istore_n 2, 1) := by decide +kernel
theorem d_M_high_26 : decode b_M_high 26 = .ok (.aload_n 0, 1) := by decide +kernel
theorem d_M_high_27 : decode b_M_high 27 = .ok (.getfield 25, 3) := by decide +kernel
theorem d_M_high_30 : decode b_M_high 30 = .ok (.iload_n 1, 1) := by decide +kernel
theorem d_M_high_31 : decode b_M_high 31 = .ok (.iaload, 1) := by decide +kernel
theorem d_M_high_32 : decode b_M_high 32 = .ok (.istore_n 3, 1) := by decide +kernel
theorem d_M_high_33 : decode b_M_high 33 = .ok (.iload_n 3, 1) := by decide +kernel
theorem d_M_high_34 : decode b_M_high 34 = .ok (.aload_n 0, 1) := by decide +kernel
theorem d_M_high_35 : decode b_M_high 35 = .ok (.getfield 28, 3) := by decide +kernel
theorem d_M_high_38 : decode b_M_high 38 = .ok (.iload_n 1, 1) := by decide +kernel
theorem d_M_high_39 : decode b_M_high 39 = .ok (.iaload, 1) := by decide +kernel
theorem d_M_high_40 : decode b_M_high 40 = .ok (.if_icmp .ge 24, 3) := by decide +kernel
theorem d_M_high_43 : decode b_M_high 43 = .ok (.iload_n 2, 1) := by decide +kernel
theorem d_M_high_44 : decode b_M_high 44 = .ok (.aload_n 0, 1) := by decide +kernel
theorem d_M_high_45 : decode b_M_high 45 = .ok (.getfield 13, 3) := by decide +kernel
theorem d_M_high_48 : decode b_M_high 48 = .ok (.sipush 512, 3) := by decide +kernel
theorem d_M_high_51 : decode b_M_high 51 = .ok (.iload_n 1, 1) := by decide +kernel
theorem d_M_high_52 : decode b_M_high 52 = .ok (.imul, 1) := by decide +kernel
theorem d_M_high_53 : decode b_M_high 53 = .ok (.iload_n 3, 1) := by decide +kernel
theorem d_M_high_54 : decode b_M_high 54 = .ok (.iadd, 1) := by decide +kernel
theorem d_M_high_55 : decode b_M_high 55 = .ok (.iaload, 1) := by decide +kernel
theorem d_M_high_56 : decode b_M_high 56 = .ok (.iadd, 1) := by decide +kernel
theorem d_M_high_57 : decode b_M_high 57 = .ok (.istore_n 2, 1) := by decide +kernel
theorem d_M_high_58 : decode b_M_high 58 = .ok (.iinc 3 1, 3) := by decide +kernel
theorem d_M_high_61 : decode b_M_high 61 = .ok (.goto (-28), 3) := by decide +kernel
theorem d_M_high_64 : decode b_M_high 64 = .ok (.iload_n 2, 1) := by decide +kernel
theorem d_M_high_65 : decode b_M_high 65 = .ok (.ireturn, 1) := by decide +kernel
theorem d_M_goOn_0 : decode b_M_goOn 0 = .ok (.aload_n 0, 1) := by decide +kernel
theorem d_M_goOn_1 : decode b_M_goOn 1 = .ok (.getfield 7, 3) := by decide +kernel
theorem d_M_goOn_4 : decode b_M_goOn 4 = .ok (.iload_n 1, 1) := by decide +kernel
theorem d_M_goOn_5 : decode b_M_goOn 5 = .ok (.aload_n 0, 1) := by decide +kernel
theorem d_M_goOn_6 : decode b_M_goOn 6 = .ok (.getfield 7, 3) := by decide +kernel
theorem d_M_goOn_9 : decode b_M_goOn 9 = .ok (.iload_n 1, 1) := by decide +kernel
theorem d_M_goOn_10 : decode b_M_goOn 10 = .ok (.iaload, 1) := by decide +kernel
theorem d_M_goOn_11 : decode b_M_goOn 11 = .ok (.aload_n 0, 1) := by decide +kernel
theorem d_M_goOn_12 : decode b_M_goOn 12 = .ok (.getfield 83, 3) := by decide +kernel
theorem d_M_goOn_15 : decode b_M_goOn 15 = .ok (.if_icmp .ge 7, 3) := by decide +kernel
theorem d_M_goOn_18 : decode b_M_goOn 18 = .ok (.iconst 0, 1) := by decide +kernel
theorem d_M_goOn_19 : decode b_M_goOn 19 = .ok (.goto 14, 3) := by decide +kernel
theorem d_M_goOn_22 : decode b_M_goOn 22 = .ok (.aload_n 0, 1) := by decide +kernel
theorem d_M_goOn_23 : decode b_M_goOn 23 = .ok (.getfield 7, 3) := by decide +kernel
theorem d_M_goOn_26 : decode b_M_goOn 26 = .ok (.iload_n 1, 1) := by decide +kernel
theorem d_M_goOn_27 : decode b_M_goOn 27 = .ok (.iaload, 1) := by decide +kernel
theorem d_M_goOn_28 : decode b_M_goOn 28 = .ok (.aload_n 0, 1) := by decide +kernel
theorem d_M_goOn_29 : decode b_M_goOn 29 = .ok (.getfield 83, 3) := by decide +kernel
theorem d_M_goOn_32 : decode b_M_goOn 32 = .ok (.isub, 1) := by decide +kernel
theorem d_M_goOn_33 : decode b_M_goOn 33 = .ok (.iastore, 1) := by decide +kernel
theorem d_M_goOn_34 : decode b_M_goOn 34 = .ok (.sipush 512, 3) := by decide +kernel
theorem d_M_goOn_37 : decode b_M_goOn 37 = .ok (.iload_n 1, 1) := by decide +kernel
theorem d_M_goOn_38 : decode b_M_goOn 38 = .ok (.imul, 1) := by decide +kernel
theorem d_M_goOn_39 : decode b_M_goOn 39 = .ok (.aload_n 0, 1) := by decide +kernel
theorem d_M_goOn_40 : decode b_M_goOn 40 = .ok (.getfield 25, 3) := by decide +kernel
theorem d_M_goOn_43 : decode b_M_goOn 43 = .ok (.iload_n 1, 1) := by decide +kernel
theorem d_M_goOn_44 : decode b_M_goOn 44 = .ok (.iaload, 1) := by decide +kernel
theorem d_M_goOn_45 : decode b_M_goOn 45 = .ok (.iadd, 1) := by decide +kernel
theorem d_M_goOn_46 : decode b_M_goOn 46 = .ok (.istore_n 2, 1) := by decide +kernel
theorem d_M_goOn_47 : decode b_M_goOn 47 = .ok (.aload_n 0, 1) := by decide +kernel
theorem d_M_goOn_48 : decode b_M_goOn 48 = .ok (.getfield 25, 3) := by decide +kernel
theorem d_M_goOn_51 : decode b_M_goOn 51 = .ok (.iload_n 1, 1) := by decide +kernel
theorem d_M_goOn_52 : decode b_M_goOn 52 = .ok (.iaload, 1) := by decide +kernel
theorem d_M_goOn_53 : decode b_M_goOn 53 = .ok (.aload_n 0, 1) := by decide +kernel
theorem d_M_goOn_54 : decode b_M_goOn 54 = .ok (.getfield 22, 3) := by decide +kernel
theorem d_M_goOn_57 : decode b_M_goOn 57 = .ok (.iload_n 1, 1) := by decide +kernel
theorem d_M_goOn_58 : decode b_M_goOn 58 = .ok (.iaload, 1) := by decide +kernel
theorem d_M_goOn_59 : decode b_M_goOn 59 = .ok (.if_icmp .ge 68, 3) := by decide +kernel
theorem d_M_goOn_62 : decode b_M_goOn 62 = .ok (.aload_n 0, 1) := by decide +kernel
theorem d_M_goOn_63 : decode b_M_goOn 63 = .ok (.getfield 16, 3) := by decide +kernel
theorem d_M_goOn_66 : decode b_M_goOn 66 = .ok (.iload_n 2, 1) := by decide +kernel
theorem d_M_goOn_67 : decode b_M_goOn 67 = .ok (.iaload, 1) := by decide +kernel
theorem d_M_goOn_68 : decode b_M_goOn 68 = .ok (.aload_n 0, 1) := by decide +kernel
theorem d_M_goOn_69 : decode b_M_goOn 69 = .ok (.getfield 94, 3) := by decide +kernel
theorem d_M_goOn_72 : decode b_M_goOn 72 = .ok (.if_icmp .ne 55, 3) := by decide +kernel
theorem d_M_goOn_75 : decode b_M_goOn 75 = .ok (.aload_n 0, 1) := by decide +kernel
theorem d_M_goOn_76 : decode b_M_goOn 76 = .ok (.getfield 25, 3) := by decide +kernel
theorem d_M_goOn_79 : decode b_M_goOn 79 = .ok (.iload_n 1, 1) := by decide +kernel
theorem d_M_goOn_80 : decode b_M_goOn 80 = .ok (.iaload, 1) := by decide +kernel
theorem d_M_goOn_81 : decode b_M_goOn 81 = .ok (.aload_n 0, 1) := by decide +kernel
theorem d_M_goOn_82 : decode b_M_goOn 82 = .ok (.getfield 28, 3) := by decide +kernel
theorem d_M_goOn_85 : decode b_M_goOn 85 = .ok (.iload_n 1, 1) := by decide +kernel
theorem d_M_goOn_86 : decode b_M_goOn 86 = .ok (.iaload, 1) := by decide +kernel
theorem d_M_goOn_87 : decode b_M_goOn 87 = .ok (.if_icmp .ne 30, 3) := by decide +kernel
theorem d_M_goOn_90 : decode b_M_goOn 90 = .ok (.aload_n 0, 1) := by decide +kernel
theorem d_M_goOn_91 : decode b_M_goOn 91 = .ok (.getfield 34, 3) := by decide +kernel
theorem d_M_goOn_94 : decode b_M_goOn 94 = .ok (.iload_n 1, 1) := by decide +kernel
theorem d_M_goOn_95 : decode b_M_goOn 95 = .ok (.dup2, 1) := by decide +kernel
theorem d_M_goOn_96 : decode b_M_goOn 96 = .ok (.iaload, 1) := by decide +kernel
theorem d_M_goOn_97 : decode b_M_goOn 97 = .ok (.iconst 1, 1) := by decide +kernel
theorem d_M_goOn_98 : decode b_M_goOn 98 = .ok (.iadd, 1) := by decide +kernel
theorem d_M_goOn_99 : decode b_M_goOn 99 = .ok (.iastore, 1) := by decide +kernel
theorem d_M_goOn_100 : decode b_M_goOn 100 = .ok (.aload_n 0, 1) := by decide +kernel
theorem d_M_goOn_101 : decode b_M_goOn 101 = .ok (.getfield 28, 3) := by decide +kernel
theorem d_M_goOn_104 : decode b_M_goOn 104 = .ok (.iload_n 1, 1) := by decide +kernel
theorem d_M_goOn_105 : decode b_M_goOn 105 = .ok (.dup2, 1) := by decide +kernel
theorem d_M_goOn_106 : decode b_M_goOn 106 = .ok (.iaload, 1) := by decide +kernel
theorem d_M_goOn_107 : decode b_M_goOn 107 = .ok (.iconst 1, 1) := by decide +kernel
theorem d_M_goOn_108 : decode b_M_goOn 108 = .ok (.iadd, 1) := by decide +kernel
theorem d_M_goOn_109 : decode b_M_goOn 109 = .ok (.iastore, 1) := by decide +kernel
theorem d_M_goOn_110 : decode b_M_goOn 110 = .ok (.aload_n 0, 1) := by decide +kernel
theorem d_M_goOn_111 : decode b_M_goOn 111 = .ok (.getfield 31, 3) := by decide +kernel
theorem d_M_goOn_114 : decode b_M_goOn 114 = .ok (.iload_n 1, 1) := by decide +kernel
theorem d_M_goOn_115 : decode b_M_goOn 115 = .ok (.iconst 0, 1) := by decide +kernel
theorem d_M_goOn_116 : decode b_M_goOn 116 = .ok (.iastore, 1) := by decide +kernel
theorem d_M_goOn_117 : decode b_M_goOn 117 = .ok (.aload_n 0, 1) := by decide +kernel
theorem d_M_goOn_118 : decode b_M_goOn 118 = .ok (.getfield 25, 3) := by decide +kernel
theorem d_M_goOn_121 : decode b_M_goOn 121 = .ok (.iload_n 1, 1) := by decide +kernel
theorem d_M_goOn_122 : decode b_M_goOn 122 = .ok (.dup2, 1) := by decide +kernel
theorem d_M_goOn_123 : decode b_M_goOn 123 = .ok (.iaload, 1) := by decide +kernel
