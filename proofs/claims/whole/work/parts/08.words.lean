theorem cl_La_8 : Cond.classLink RL 8 RX5 ∈ WALL := WALL_at 85 (by decide +kernel) rfl
theorem nw_Sp : Cond.instantiable RX5 8 ∈ WALL ∧ Cond.initialized RX5 ∈ WALL := ⟨WALL_at 86 (by decide +kernel) rfl, WALL_at 51 (by decide +kernel) rfl⟩
theorem ml_La_125 : Cond.methodLink RL 125 yX5_init ∈ WALL := WALL_at 87 (by decide +kernel) rfl
theorem ml_Sp_3 : Cond.methodLink RX5 3 objectInit ∈ WALL := WALL_at 90 (by decide +kernel) rfl
theorem cl_Sp_9 : Cond.classLink RX5 9 RJx4a65c ∈ WALL := WALL_at 93 (by decide +kernel) rfl
theorem nw_AL : Cond.instantiable RJx4a65c 3 ∈ WALL ∧ Cond.initialized RJx4a65c ∈ WALL := ⟨WALL_at 94 (by decide +kernel) rfl, WALL_at 54 (by decide +kernel) rfl⟩
theorem ml_Sp_11 : Cond.methodLink RX5 11 yJx4a65c_init_da8c8 ∈ WALL := WALL_at 95 (by decide +kernel) rfl
theorem ml_AL_1 : Cond.methodLink RJx4a65c 1 yJxc12de_init_da8c8 ∈ WALL := WALL_at 98 (by decide +kernel) rfl
theorem ml_Ab_1 : Cond.methodLink RJxc12de 1 yJxa1e45_init_da8c8 ∈ WALL := WALL_at 101 (by decide +kernel) rfl
theorem ml_Ac_1 : Cond.methodLink RJxa1e45 1 objectInit ∈ WALL := WALL_at 104 (by decide +kernel) rfl
theorem sl_AL_39 : Cond.fieldLink RJx4a65c 39 "java/util/ArrayList" "DEFAULTCAPACITY_EMPTY_ELEMENTDATA" "[Ljava/lang/Object;" ∈ WALL := WALL_at 105 (by decide +kernel) rfl
theorem fl_AL_9 : FL RJx4a65c 9 8 1 := FL_of (ref := "java/util/ArrayList") (WALL_at 107 (by decide +kernel) rfl) rfl
theorem fl_AL_48 : FL RJx4a65c 48 8 2 := FL_of (ref := "java/util/ArrayList") (WALL_at 108 (by decide +kernel) rfl) rfl
theorem sl_Ab_7 : Cond.fieldLink RJxc12de 7 "java/util/AbstractList" "modCount" "I" ∈ WALL := WALL_at 109 (by decide +kernel) rfl
theorem fl_AL_63 : FL RJx4a65c 63 8 0 := FL_of2 (ref := "java/util/ArrayList") (o := "java/util/AbstractList") (WALL_at 110 (by decide +kernel) rfl) (WALL_at 111 (by decide +kernel) rfl) rfl
theorem fl_Sp_12 : FL RX5 12 6 0 := FL_of (ref := "Spliceroom") (WALL_at 119 (by decide +kernel) rfl) rfl
theorem fl_Sp_16 : FL RX5 16 6 1 := FL_of (ref := "Spliceroom") (WALL_at 120 (by decide +kernel) rfl) rfl
theorem fl_Sp_19 : FL RX5 19 6 2 := FL_of (ref := "Spliceroom") (WALL_at 121 (by decide +kernel) rfl) rfl
theorem fl_Sp_22 : FL RX5 22 6 3 := FL_of (ref := "Spliceroom") (WALL_at 122 (by decide +kernel) rfl) rfl
theorem fl_Sp_25 : FL RX5 25 6 4 := FL_of (ref := "Spliceroom") (WALL_at 123 (by decide +kernel) rfl) rfl
theorem fl_Sp_28 : FL RX5 28 6 5 := FL_of (ref := "Spliceroom") (WALL_at 124 (by decide +kernel) rfl) rfl
theorem fl_Sp_32 : FL RX5 32 6 6 := FL_of (ref := "Spliceroom") (WALL_at 125 (by decide +kernel) rfl) rfl
theorem fl_Sp_35 : FL RX5 35 6 7 := FL_of (ref := "Spliceroom") (WALL_at 126 (by decide +kernel) rfl) rfl
theorem ml_La_230 : Cond.methodLink RL 230 yX5_shown ∈ WALL := WALL_at 144 (by decide +kernel) rfl
theorem ml_La_242 : Cond.methodLink RL 242 yX5_isSound ∈ WALL := WALL_at 148 (by decide +kernel) rfl
theorem ml_Sp_180 : Cond.methodLink RX5 180 yX5_isWearWithin ∈ WALL := WALL_at 152 (by decide +kernel) rfl
theorem ml_Sp_39 : Cond.methodLink RX5 39 yJx4a65c_size_8abf5 ∈ WALL := WALL_at 156 (by decide +kernel) rfl
theorem ml_Sp_146 : Cond.methodLink RX5 146 yJx4a65c_get_915e3 ∈ WALL := WALL_at 160 (by decide +kernel) rfl
theorem ml_AL_118 : Cond.methodLink RJx4a65c 118 yJ15_checkIndex_7cf53 ∈ WALL := WALL_at 164 (by decide +kernel) rfl
theorem ml_Ob_105 : Cond.methodLink RJ15 105 yJ3_checkIndex_8e157 ∈ WALL := WALL_at 167 (by decide +kernel) rfl
theorem ml_AL_123 : Cond.methodLink RJx4a65c 123 yJx4a65c_elementData_915e3 ∈ WALL := WALL_at 170 (by decide +kernel) rfl
theorem cl_Sp_86 : Cond.classLink RX5 86 RX2 ∈ WALL := WALL_at 174 (by decide +kernel) rfl
theorem ml_Sp_189 : Cond.methodLink RX5 189 yX2_canTake ∈ WALL := WALL_at 175 (by decide +kernel) rfl
theorem ml_Re_34 : Cond.methodLink RX2 34 yJx4a65c_size_8abf5 ∈ WALL := WALL_at 179 (by decide +kernel) rfl
theorem ml_Re_44 : Cond.methodLink RX2 44 yJx4a65c_get_915e3 ∈ WALL := WALL_at 180 (by decide +kernel) rfl
theorem cl_Re_29 : Cond.classLink RX2 29 RX3 ∈ WALL := WALL_at 181 (by decide +kernel) rfl
theorem ml_Sp_347 : Cond.methodLink RX5 347 yX5_arePassedGradesSound ∈ WALL := WALL_at 182 (by decide +kernel) rfl
theorem cl_Sp_75 : Cond.classLink RX5 75 RX3 ∈ WALL := WALL_at 186 (by decide +kernel) rfl
theorem ml_Sp_381 : Cond.methodLink RX5 381 yX3_canHavePassedTo ∈ WALL := WALL_at 187 (by decide +kernel) rfl
theorem ml_Sh_42 : Cond.methodLink RX3 42 yX3_currentGrade ∈ WALL := WALL_at 191 (by decide +kernel) rfl
theorem ml_Sp_350 : Cond.methodLink RX5 350 yX5_areVersionLengthsSound ∈ WALL := WALL_at 195 (by decide +kernel) rfl
theorem cl_Sp_264 : Cond.classLink RX5 264 RX4 ∈ WALL := WALL_at 199 (by decide +kernel) rfl
theorem ml_Sp_292 : Cond.methodLink RX5 292 yX4_lengthByShots ∈ WALL := WALL_at 200 (by decide +kernel) rfl
theorem ml_Ve_55 : Cond.methodLink RX4 55 yJx4a65c_size_8abf5 ∈ WALL := WALL_at 204 (by decide +kernel) rfl
theorem ml_Ve_61 : Cond.methodLink RX4 61 yJx4a65c_get_915e3 ∈ WALL := WALL_at 205 (by decide +kernel) rfl
theorem cl_Ve_24 : Cond.classLink RX4 24 RX3 ∈ WALL := WALL_at 206 (by decide +kernel) rfl
theorem ml_Ve_65 : Cond.methodLink RX4 65 yX3_keptFrames ∈ WALL := WALL_at 207 (by decide +kernel) rfl
theorem ml_Ve_68 : Cond.methodLink RX4 68 yX4_leftOutOf ∈ WALL := WALL_at 211 (by decide +kernel) rfl
theorem ml_Ve_34 : Cond.methodLink RX4 34 yJ13_bitCount_95d88 ∈ WALL := WALL_at 215 (by decide +kernel) rfl
theorem ml_Sp_385 : Cond.methodLink RX5 385 yX4_lengthByFrames ∈ WALL := WALL_at 221 (by decide +kernel) rfl
theorem ml_Ve_72 : Cond.methodLink RX4 72 yX4_isLeftOut ∈ WALL := WALL_at 225 (by decide +kernel) rfl
theorem ml_La_129 : Cond.methodLink RL 129 yL_addFilm ∈ WALL := WALL_at 229 (by decide +kernel) rfl
theorem cl_La_13 : Cond.classLink RL 13 "java/lang/IllegalStateException" ∈ WALL := WALL_at 232 (by decide +kernel) rfl
theorem ml_La_7 : Cond.methodLink RL 7 yX5_addFilm ∈ WALL := WALL_at 233 (by decide +kernel) rfl
theorem cl_Sp_43 : Cond.classLink RX5 43 "java/lang/IllegalStateException" ∈ WALL := WALL_at 237 (by decide +kernel) rfl
theorem ml_Sp_47 : Cond.methodLink RX5 47 (⟨"java/lang/IllegalStateException", "<init>", "(Ljava/lang/String;)V"⟩ : MethodName) ∈ WALL := WALL_at 283 (by decide +kernel) rfl
theorem cl_Sp_50 : Cond.classLink RX5 50 RX0 ∈ WALL := WALL_at 309 (by decide +kernel) rfl
theorem nw_Fi : Cond.instantiable RX0 2 ∈ WALL ∧ Cond.initialized RX0 ∈ WALL := ⟨WALL_at 310 (by decide +kernel) rfl, WALL_at 60 (by decide +kernel) rfl⟩
theorem ml_Fi_3 : Cond.methodLink RX0 3 objectInit ∈ WALL := WALL_at 314 (by decide +kernel) rfl
theorem cl_Fi_9 : Cond.classLink RX0 9 RJx4a65c ∈ WALL := WALL_at 315 (by decide +kernel) rfl
theorem ml_Fi_11 : Cond.methodLink RX0 11 yJx4a65c_init_da8c8 ∈ WALL := WALL_at 316 (by decide +kernel) rfl
theorem fl_Fi_12 : FL RX0 12 1 0 := FL_of (ref := "Spliceroom$Film") (WALL_at 317 (by decide +kernel) rfl) rfl
theorem fl_Sp_71 : FL RX5 71 1 0 := FL_of (ref := "Spliceroom$Film") (WALL_at 318 (by decide +kernel) rfl) rfl
theorem fl_Ve_49 : FL RX4 49 1 0 := FL_of (ref := "Spliceroom$Film") (WALL_at 319 (by decide +kernel) rfl) rfl
theorem fl_Sp_307 : FL RX5 307 1 1 := FL_of (ref := "Spliceroom$Film") (WALL_at 320 (by decide +kernel) rfl) rfl
theorem ml_Sp_53 : Cond.methodLink RX5 53 yJx4a65c_add_9ea2d ∈ WALL := WALL_at 326 (by decide +kernel) rfl
theorem ml_AL_131 : Cond.methodLink RJx4a65c 131 yJx4a65c_add_72be8 ∈ WALL := WALL_at 330 (by decide +kernel) rfl
theorem ml_AL_129 : Cond.methodLink RJx4a65c 129 yJx4a65c_grow_d5877 ∈ WALL := WALL_at 334 (by decide +kernel) rfl
theorem ml_AL_69 : Cond.methodLink RJx4a65c 69 yJx4a65c_grow_92f84 ∈ WALL := WALL_at 338 (by decide +kernel) rfl
theorem ml_AL_73 : Cond.methodLink RJx4a65c 73 yJ8_newLength_cabcc ∈ WALL := WALL_at 342 (by decide +kernel) rfl
theorem ml_As_194 : Cond.methodLink RJ8 194 Lib.Math.max.name ∈ WALL := WALL_at 345 (by decide +kernel) rfl
theorem ml_As_201 : Cond.methodLink RJ8 201 yJ8_hugeLength_7cf53 ∈ WALL := WALL_at 349 (by decide +kernel) rfl
theorem ml_AL_66 : Cond.methodLink RJx4a65c 66 yJ7_copyOf_1904c ∈ WALL := WALL_at 352 (by decide +kernel) rfl
theorem ml_Ar_86 : Cond.methodLink RJ7 86 (⟨"java/lang/Object", "getClass", "()Ljava/lang/Class;"⟩ : MethodName) ∈ WALL := WALL_at 355 (by decide +kernel) rfl
theorem ml_Ar_300 : Cond.methodLink RJ7 300 yJ7_copyOf_6403c ∈ WALL := WALL_at 376 (by decide +kernel) rfl
theorem cl_Ar_110 : Cond.classLink RJ7 110 "[Ljava/lang/Object;" ∈ WALL := WALL_at 379 (by decide +kernel) rfl
theorem cl_Ar_2 : Cond.classLink RJ7 2 "java/lang/Object" ∈ WALL := WALL_at 381 (by decide +kernel) rfl
theorem ml_Ar_304 : Cond.methodLink RJ7 304 Lib.Math.min.name ∈ WALL := WALL_at 382 (by decide +kernel) rfl
theorem ml_Ar_150 : Cond.methodLink RJ7 150 arraycopyName ∈ WALL := WALL_at 385 (by decide +kernel) rfl
theorem ml_AL_79 : Cond.methodLink RJx4a65c 79 Lib.Math.max.name ∈ WALL := WALL_at 388 (by decide +kernel) rfl
theorem cl_AL_7 : Cond.classLink RJx4a65c 7 "java/lang/Object" ∈ WALL := WALL_at 389 (by decide +kernel) rfl
theorem ml_La_138 : Cond.methodLink RL 138 yL_addShot ∈ WALL := WALL_at 390 (by decide +kernel) rfl
theorem cl_La_19 : Cond.classLink RL 19 "java/lang/IndexOutOfBoundsException" ∈ WALL := WALL_at 393 (by decide +kernel) rfl
theorem cl_La_21 : Cond.classLink RL 21 "java/lang/IllegalArgumentException" ∈ WALL := WALL_at 417 (by decide +kernel) rfl
theorem ml_La_15 : Cond.methodLink RL 15 yX5_addShot ∈ WALL := WALL_at 418 (by decide +kernel) rfl
theorem ml_Sp_57 : Cond.methodLink RX5 57 yX5_filmNumbered ∈ WALL := WALL_at 422 (by decide +kernel) rfl
theorem cl_Sp_128 : Cond.classLink RX5 128 "java/lang/IndexOutOfBoundsException" ∈ WALL := WALL_at 426 (by decide +kernel) rfl
theorem ml_Sp_132 : Cond.methodLink RX5 132 (⟨"java/lang/IndexOutOfBoundsException", "<init>", "(Ljava/lang/String;)V"⟩ : MethodName) ∈ WALL := WALL_at 436 (by decide +kernel) rfl
theorem ml_Sp_61 : Cond.methodLink RX5 61 yX5_requireLengthAndScene ∈ WALL := WALL_at 439 (by decide +kernel) rfl
theorem cl_Sp_101 : Cond.classLink RX5 101 "java/lang/IllegalArgumentException" ∈ WALL := WALL_at 443 (by decide +kernel) rfl
theorem ml_Sp_105 : Cond.methodLink RX5 105 (⟨"java/lang/IllegalArgumentException", "<init>", "(Ljava/lang/String;)V"⟩ : MethodName) ∈ WALL := WALL_at 453 (by decide +kernel) rfl
theorem ml_Sp_67 : Cond.methodLink RX5 67 yX5_newShot ∈ WALL := WALL_at 460 (by decide +kernel) rfl
theorem nw_Sh : Cond.instantiable RX3 10 ∈ WALL ∧ Cond.initialized RX3 ∈ WALL := ⟨WALL_at 464 (by decide +kernel) rfl, WALL_at 71 (by decide +kernel) rfl⟩
theorem ml_Sp_370 : Cond.methodLink RX5 370 yX3_init ∈ WALL := WALL_at 465 (by decide +kernel) rfl
theorem ml_Sh_3 : Cond.methodLink RX3 3 objectInit ∈ WALL := WALL_at 468 (by decide +kernel) rfl
theorem fl_Sh_15 : FL RX3 15 4 0 := FL_of (ref := "Spliceroom$Shot") (WALL_at 469 (by decide +kernel) rfl) rfl
theorem fl_Sp_100 : FL RX5 100 4 0 := FL_of (ref := "Spliceroom$Shot") (WALL_at 470 (by decide +kernel) rfl) rfl
theorem fl_Sh_19 : FL RX3 19 4 1 := FL_of (ref := "Spliceroom$Shot") (WALL_at 471 (by decide +kernel) rfl) rfl
theorem fl_Ve_23 : FL RX4 23 4 1 := FL_of (ref := "Spliceroom$Shot") (WALL_at 472 (by decide +kernel) rfl) rfl
theorem fl_Sp_74 : FL RX5 74 4 1 := FL_of (ref := "Spliceroom$Shot") (WALL_at 473 (by decide +kernel) rfl) rfl
theorem fl_Sh_25 : FL RX3 25 4 2 := FL_of (ref := "Spliceroom$Shot") (WALL_at 474 (by decide +kernel) rfl) rfl
theorem fl_Sp_251 : FL RX5 251 4 2 := FL_of (ref := "Spliceroom$Shot") (WALL_at 475 (by decide +kernel) rfl) rfl
theorem fl_Sh_22 : FL RX3 22 4 3 := FL_of (ref := "Spliceroom$Shot") (WALL_at 476 (by decide +kernel) rfl) rfl
theorem fl_Re_48 : FL RX2 48 4 3 := FL_of (ref := "Spliceroom$Shot") (WALL_at 477 (by decide +kernel) rfl) rfl
theorem fl_Sp_153 : FL RX5 153 4 3 := FL_of (ref := "Spliceroom$Shot") (WALL_at 478 (by decide +kernel) rfl) rfl
theorem fl_Sh_28 : FL RX3 28 4 4 := FL_of (ref := "Spliceroom$Shot") (WALL_at 479 (by decide +kernel) rfl) rfl
theorem fl_Re_28 : FL RX2 28 4 4 := FL_of (ref := "Spliceroom$Shot") (WALL_at 480 (by decide +kernel) rfl) rfl
theorem fl_Sp_174 : FL RX5 174 4 4 := FL_of (ref := "Spliceroom$Shot") (WALL_at 481 (by decide +kernel) rfl) rfl
theorem fl_Re_51 : FL RX2 51 4 5 := FL_of (ref := "Spliceroom$Shot") (WALL_at 482 (by decide +kernel) rfl) rfl
theorem fl_Sp_206 : FL RX5 206 4 5 := FL_of (ref := "Spliceroom$Shot") (WALL_at 483 (by decide +kernel) rfl) rfl
theorem fl_Sh_32 : FL RX3 32 4 6 := FL_of (ref := "Spliceroom$Shot") (WALL_at 484 (by decide +kernel) rfl) rfl
theorem fl_Sp_228 : FL RX5 228 4 6 := FL_of (ref := "Spliceroom$Shot") (WALL_at 485 (by decide +kernel) rfl) rfl
theorem fl_Sh_35 : FL RX3 35 4 7 := FL_of (ref := "Spliceroom$Shot") (WALL_at 486 (by decide +kernel) rfl) rfl
theorem fl_Sp_231 : FL RX5 231 4 7 := FL_of (ref := "Spliceroom$Shot") (WALL_at 487 (by decide +kernel) rfl) rfl
theorem fl_Sh_9 : FL RX3 9 4 8 := FL_of (ref := "Spliceroom$Shot") (WALL_at 488 (by decide +kernel) rfl) rfl
theorem fl_Sp_236 : FL RX5 236 4 8 := FL_of (ref := "Spliceroom$Shot") (WALL_at 489 (by decide +kernel) rfl) rfl
theorem fl_Sh_38 : FL RX3 38 4 9 := FL_of (ref := "Spliceroom$Shot") (WALL_at 490 (by decide +kernel) rfl) rfl
theorem fl_Fi_35 : FL RX0 35 4 9 := FL_of (ref := "Spliceroom$Shot") (WALL_at 491 (by decide +kernel) rfl) rfl
theorem fl_Sp_244 : FL RX5 244 4 9 := FL_of (ref := "Spliceroom$Shot") (WALL_at 492 (by decide +kernel) rfl) rfl
theorem ml_La_142 : Cond.methodLink RL 142 yL_addReel ∈ WALL := WALL_at 514 (by decide +kernel) rfl
theorem ml_La_23 : Cond.methodLink RL 23 yX5_addReel ∈ WALL := WALL_at 517 (by decide +kernel) rfl
theorem ml_Sp_81 : Cond.methodLink RX5 81 yX5_newReel ∈ WALL := WALL_at 522 (by decide +kernel) rfl
theorem nw_Re : Cond.instantiable RX2 3 ∈ WALL ∧ Cond.initialized RX2 ∈ WALL := ⟨WALL_at 526 (by decide +kernel) rfl, WALL_at 72 (by decide +kernel) rfl⟩
theorem ml_Sp_371 : Cond.methodLink RX5 371 yX2_init ∈ WALL := WALL_at 527 (by decide +kernel) rfl
theorem ml_Re_1 : Cond.methodLink RX2 1 objectInit ∈ WALL := WALL_at 530 (by decide +kernel) rfl
theorem cl_Re_7 : Cond.classLink RX2 7 RJx4a65c ∈ WALL := WALL_at 531 (by decide +kernel) rfl
theorem ml_Re_9 : Cond.methodLink RX2 9 yJx4a65c_init_da8c8 ∈ WALL := WALL_at 532 (by decide +kernel) rfl
theorem fl_Re_16 : FL RX2 16 3 0 := FL_of (ref := "Spliceroom$Reel") (WALL_at 533 (by decide +kernel) rfl) rfl
theorem fl_Sp_96 : FL RX5 96 3 0 := FL_of (ref := "Spliceroom$Reel") (WALL_at 534 (by decide +kernel) rfl) rfl
theorem fl_Re_20 : FL RX2 20 3 1 := FL_of (ref := "Spliceroom$Reel") (WALL_at 535 (by decide +kernel) rfl) rfl
theorem fl_Sp_85 : FL RX5 85 3 1 := FL_of (ref := "Spliceroom$Reel") (WALL_at 536 (by decide +kernel) rfl) rfl
theorem fl_Re_10 : FL RX2 10 3 2 := FL_of (ref := "Spliceroom$Reel") (WALL_at 537 (by decide +kernel) rfl) rfl
theorem fl_Sp_127 : FL RX5 127 3 2 := FL_of (ref := "Spliceroom$Reel") (WALL_at 538 (by decide +kernel) rfl) rfl
theorem ml_La_146 : Cond.methodLink RL 146 yL_put ∈ WALL := WALL_at 546 (by decide +kernel) rfl
theorem cl_La_31 : Cond.classLink RL 31 "java/lang/UnsupportedOperationException" ∈ WALL := WALL_at 549 (by decide +kernel) rfl
theorem ml_La_27 : Cond.methodLink RL 27 yX5_put ∈ WALL := WALL_at 550 (by decide +kernel) rfl
theorem ml_Sp_88 : Cond.methodLink RX5 88 yX5_reelNumbered ∈ WALL := WALL_at 554 (by decide +kernel) rfl
theorem ml_Sp_92 : Cond.methodLink RX5 92 yX5_shotNumbered ∈ WALL := WALL_at 559 (by decide +kernel) rfl
theorem ml_Sp_106 : Cond.methodLink RX5 106 yX3_isMissing ∈ WALL := WALL_at 565 (by decide +kernel) rfl
theorem ml_Sp_110 : Cond.methodLink RX5 110 yX5_isAheadOfEnd ∈ WALL := WALL_at 569 (by decide +kernel) rfl
theorem ml_Sp_161 : Cond.methodLink RX5 161 yX0_placeOf ∈ WALL := WALL_at 573 (by decide +kernel) rfl
theorem ml_Fi_18 : Cond.methodLink RX0 18 yJx4a65c_size_8abf5 ∈ WALL := WALL_at 577 (by decide +kernel) rfl
theorem ml_Fi_22 : Cond.methodLink RX0 22 yJx4a65c_get_915e3 ∈ WALL := WALL_at 578 (by decide +kernel) rfl
theorem cl_Sp_114 : Cond.classLink RX5 114 "java/lang/UnsupportedOperationException" ∈ WALL := WALL_at 579 (by decide +kernel) rfl
theorem ml_Sp_118 : Cond.methodLink RX5 118 (⟨"java/lang/UnsupportedOperationException", "<init>", "(Ljava/lang/String;)V"⟩ : MethodName) ∈ WALL := WALL_at 589 (by decide +kernel) rfl
theorem ml_Sp_119 : Cond.methodLink RX5 119 yX5_requireNotLent ∈ WALL := WALL_at 595 (by decide +kernel) rfl
theorem ml_Sp_123 : Cond.methodLink RX5 123 yX2_append ∈ WALL := WALL_at 600 (by decide +kernel) rfl
theorem ml_Re_24 : Cond.methodLink RX2 24 yJx4a65c_add_9ea2d ∈ WALL := WALL_at 604 (by decide +kernel) rfl
theorem ml_La_150 : Cond.methodLink RL 150 yL_found ∈ WALL := WALL_at 605 (by decide +kernel) rfl
theorem ml_La_33 : Cond.methodLink RL 33 yX5_found ∈ WALL := WALL_at 608 (by decide +kernel) rfl
theorem ml_Sp_135 : Cond.methodLink RX5 135 yJx4a65c_add_7a177 ∈ WALL := WALL_at 614 (by decide +kernel) rfl
theorem ml_AL_135 : Cond.methodLink RJx4a65c 135 yJx4a65c_rangeCheckForAdd_d00df ∈ WALL := WALL_at 618 (by decide +kernel) rfl
theorem cl_AL_187 : Cond.classLink RJx4a65c 187 "java/lang/IndexOutOfBoundsException" ∈ WALL := WALL_at 622 (by decide +kernel) rfl
theorem ml_AL_198 : Cond.methodLink RJx4a65c 198 yJx4a65c_outOfBoundsMsg_b52d3 ∈ WALL := WALL_at 623 (by decide +kernel) rfl
theorem cl_AL_20 : Cond.classLink RJx4a65c 20 "java/lang/StringBuilder" ∈ WALL := WALL_at 627 (by decide +kernel) rfl
theorem ml_AL_22 : Cond.methodLink RJx4a65c 22 yJ4_init_da8c8 ∈ WALL := WALL_at 629 (by decide +kernel) rfl
theorem ml_AL_25 : Cond.methodLink RJx4a65c 25 yJ4_append_15ec4 ∈ WALL := WALL_at 659 (by decide +kernel) rfl
theorem ml_Ar_310 : Cond.methodLink RJ7 310 (⟨"[B", "clone", "()Ljava/lang/Object;"⟩ : MethodName) ∈ WALL := WALL_at 683 (by decide +kernel) rfl
theorem cl_Ar_311 : Cond.classLink RJ7 311 "[B" ∈ WALL := WALL_at 689 (by decide +kernel) rfl
theorem ml_AL_29 : Cond.methodLink RJx4a65c 29 yJ4_append_bf812 ∈ WALL := WALL_at 764 (by decide +kernel) rfl
theorem ml_AL_32 : Cond.methodLink RJx4a65c 32 yJ4_toString_0e30d ∈ WALL := WALL_at 790 (by decide +kernel) rfl
theorem ml_Ar_339 : Cond.methodLink RJ7 339 yJ7_copyOfRangeByte_39247 ∈ WALL := WALL_at 819 (by decide +kernel) rfl
theorem ml_Ar_343 : Cond.methodLink RJ7 343 yJ7_checkLength_df160 ∈ WALL := WALL_at 822 (by decide +kernel) rfl
theorem cl_Ar_43 : Cond.classLink RJ7 43 "java/lang/IllegalArgumentException" ∈ WALL := WALL_at 825 (by decide +kernel) rfl
theorem cl_Ar_45 : Cond.classLink RJ7 45 "java/lang/StringBuilder" ∈ WALL := WALL_at 826 (by decide +kernel) rfl
theorem ml_Ar_47 : Cond.methodLink RJ7 47 yJ4_init_da8c8 ∈ WALL := WALL_at 827 (by decide +kernel) rfl
theorem ml_Ar_54 : Cond.methodLink RJ7 54 yJ4_append_bf812 ∈ WALL := WALL_at 828 (by decide +kernel) rfl
theorem ml_Ar_50 : Cond.methodLink RJ7 50 yJ4_append_15ec4 ∈ WALL := WALL_at 830 (by decide +kernel) rfl
theorem ml_Ar_61 : Cond.methodLink RJ7 61 yJ4_toString_0e30d ∈ WALL := WALL_at 831 (by decide +kernel) rfl
theorem ml_Ar_65 : Cond.methodLink RJ7 65 (⟨"java/lang/IllegalArgumentException", "<init>", "(Ljava/lang/String;)V"⟩ : MethodName) ∈ WALL := WALL_at 832 (by decide +kernel) rfl
theorem ml_AL_193 : Cond.methodLink RJx4a65c 193 (⟨"java/lang/IndexOutOfBoundsException", "<init>", "(Ljava/lang/String;)V"⟩ : MethodName) ∈ WALL := WALL_at 853 (by decide +kernel) rfl
theorem ml_AL_112 : Cond.methodLink RJx4a65c 112 arraycopyName ∈ WALL := WALL_at 854 (by decide +kernel) rfl
theorem ml_La_154 : Cond.methodLink RL 154 yL_join ∈ WALL := WALL_at 855 (by decide +kernel) rfl
theorem ml_La_37 : Cond.methodLink RL 37 yX5_join ∈ WALL := WALL_at 858 (by decide +kernel) rfl
theorem ml_Sp_140 : Cond.methodLink RX5 140 yX5_canBeJoined ∈ WALL := WALL_at 863 (by decide +kernel) rfl
theorem ml_Sp_216 : Cond.methodLink RX5 216 yJx4a65c_isEmpty_aae02 ∈ WALL := WALL_at 867 (by decide +kernel) rfl
theorem ml_Sp_150 : Cond.methodLink RX5 150 yJx4a65c_clear_da8c8 ∈ WALL := WALL_at 872 (by decide +kernel) rfl
theorem ml_La_157 : Cond.methodLink RL 157 yL_shots ∈ WALL := WALL_at 876 (by decide +kernel) rfl
theorem ml_La_40 : Cond.methodLink RL 40 yX5_shots ∈ WALL := WALL_at 879 (by decide +kernel) rfl
theorem ml_La_160 : Cond.methodLink RL 160 yL_shotOf ∈ WALL := WALL_at 883 (by decide +kernel) rfl
theorem ml_La_43 : Cond.methodLink RL 43 yX5_shotOf ∈ WALL := WALL_at 886 (by decide +kernel) rfl
theorem ml_La_163 : Cond.methodLink RL 163 yL_lengthOf ∈ WALL := WALL_at 890 (by decide +kernel) rfl
theorem ml_La_46 : Cond.methodLink RL 46 yX5_lengthOf ∈ WALL := WALL_at 893 (by decide +kernel) rfl
theorem ml_La_166 : Cond.methodLink RL 166 yL_frameOf ∈ WALL := WALL_at 897 (by decide +kernel) rfl
theorem cl_La_52 : Cond.classLink RL 52 "java/util/NoSuchElementException" ∈ WALL := WALL_at 900 (by decide +kernel) rfl
theorem ml_La_49 : Cond.methodLink RL 49 yX5_frameOf ∈ WALL := WALL_at 901 (by decide +kernel) rfl
theorem cl_Sp_156 : Cond.classLink RX5 156 "java/util/NoSuchElementException" ∈ WALL := WALL_at 905 (by decide +kernel) rfl
theorem ml_Sp_160 : Cond.methodLink RX5 160 (⟨"java/util/NoSuchElementException", "<init>", "(Ljava/lang/String;)V"⟩ : MethodName) ∈ WALL := WALL_at 915 (by decide +kernel) rfl
theorem ml_Sp_165 : Cond.methodLink RX5 165 yX0_framesBefore ∈ WALL := WALL_at 921 (by decide +kernel) rfl
theorem cl_Fi_26 : Cond.classLink RX0 26 RX3 ∈ WALL := WALL_at 925 (by decide +kernel) rfl
theorem ml_Fi_28 : Cond.methodLink RX0 28 yX3_keptFrames ∈ WALL := WALL_at 926 (by decide +kernel) rfl
theorem ml_La_169 : Cond.methodLink RL 169 yL_shotAt ∈ WALL := WALL_at 927 (by decide +kernel) rfl
theorem ml_La_54 : Cond.methodLink RL 54 yX5_shotAt ∈ WALL := WALL_at 930 (by decide +kernel) rfl
theorem ml_Sp_171 : Cond.methodLink RX5 171 yX3_keptFrames ∈ WALL := WALL_at 935 (by decide +kernel) rfl
theorem ml_La_172 : Cond.methodLink RL 172 yL_reelOf ∈ WALL := WALL_at 936 (by decide +kernel) rfl
theorem ml_La_57 : Cond.methodLink RL 57 yX5_reelOf ∈ WALL := WALL_at 939 (by decide +kernel) rfl
theorem ml_La_175 : Cond.methodLink RL 175 yL_setLimit ∈ WALL := WALL_at 943 (by decide +kernel) rfl
theorem ml_La_60 : Cond.methodLink RL 60 yX5_setLimit ∈ WALL := WALL_at 946 (by decide +kernel) rfl
theorem ml_Sp_184 : Cond.methodLink RX5 184 yX5_isAnyFilmLent ∈ WALL := WALL_at 951 (by decide +kernel) rfl
theorem ml_La_178 : Cond.methodLink RL 178 yL_run ∈ WALL := WALL_at 956 (by decide +kernel) rfl
theorem ml_La_63 : Cond.methodLink RL 63 yX5_run ∈ WALL := WALL_at 959 (by decide +kernel) rfl
theorem ml_Sp_195 : Cond.methodLink RX5 195 yX5_play ∈ WALL := WALL_at 964 (by decide +kernel) rfl
theorem ml_Sp_372 : Cond.methodLink RX5 372 yX2_addWear ∈ WALL := WALL_at 968 (by decide +kernel) rfl
theorem ml_Sp_376 : Cond.methodLink RX5 376 yX2_frameCount ∈ WALL := WALL_at 972 (by decide +kernel) rfl
theorem ml_Sp_199 : Cond.methodLink RX5 199 yX2_greatestWear ∈ WALL := WALL_at 976 (by decide +kernel) rfl
theorem ml_Re_38 : Cond.methodLink RX2 38 Lib.Math.max.name ∈ WALL := WALL_at 980 (by decide +kernel) rfl
theorem ml_La_181 : Cond.methodLink RL 181 yL_wear ∈ WALL := WALL_at 981 (by decide +kernel) rfl
theorem ml_La_66 : Cond.methodLink RL 66 yX5_wear ∈ WALL := WALL_at 984 (by decide +kernel) rfl
theorem ml_Sp_202 : Cond.methodLink RX5 202 yX5_shotAheadOfSplice ∈ WALL := WALL_at 988 (by decide +kernel) rfl
theorem ml_Sp_342 : Cond.methodLink RX5 342 yX2_spliceCount ∈ WALL := WALL_at 992 (by decide +kernel) rfl
theorem ml_La_184 : Cond.methodLink RL 184 yL_mend ∈ WALL := WALL_at 997 (by decide +kernel) rfl
theorem ml_La_69 : Cond.methodLink RL 69 yX5_mend ∈ WALL := WALL_at 1000 (by decide +kernel) rfl
theorem ml_Sp_211 : Cond.methodLink RX5 211 yX5_takeLastFrame ∈ WALL := WALL_at 1005 (by decide +kernel) rfl
theorem ml_Sp_288 : Cond.methodLink RX5 288 yX4_mark ∈ WALL := WALL_at 1009 (by decide +kernel) rfl
theorem ml_Ve_28 : Cond.methodLink RX4 28 yX4_bitsBetween ∈ WALL := WALL_at 1013 (by decide +kernel) rfl
theorem ml_Ve_40 : Cond.methodLink RX4 40 Lib.Math.max.name ∈ WALL := WALL_at 1016 (by decide +kernel) rfl
theorem ml_Ve_46 : Cond.methodLink RX4 46 Lib.Math.min.name ∈ WALL := WALL_at 1017 (by decide +kernel) rfl
theorem ml_Sp_285 : Cond.methodLink RX5 285 Lib.Math.min.name ∈ WALL := WALL_at 1019 (by decide +kernel) rfl
theorem ml_La_187 : Cond.methodLink RL 187 yL_scan ∈ WALL := WALL_at 1020 (by decide +kernel) rfl
theorem ml_La_72 : Cond.methodLink RL 72 yX5_scan ∈ WALL := WALL_at 1023 (by decide +kernel) rfl
theorem ml_Sp_221 : Cond.methodLink RX5 221 yX5_framesLostAt ∈ WALL := WALL_at 1029 (by decide +kernel) rfl
theorem ml_Sp_377 : Cond.methodLink RX5 377 yX5_isWorn ∈ WALL := WALL_at 1033 (by decide +kernel) rfl
theorem ml_Sp_225 : Cond.methodLink RX5 225 yX3_takeScan ∈ WALL := WALL_at 1037 (by decide +kernel) rfl
theorem ml_La_190 : Cond.methodLink RL 190 yL_scanned ∈ WALL := WALL_at 1041 (by decide +kernel) rfl
theorem ml_La_75 : Cond.methodLink RL 75 yX5_scanned ∈ WALL := WALL_at 1044 (by decide +kernel) rfl
theorem ml_La_193 : Cond.methodLink RL 193 yL_missed ∈ WALL := WALL_at 1048 (by decide +kernel) rfl
theorem ml_La_78 : Cond.methodLink RL 78 yX5_missed ∈ WALL := WALL_at 1051 (by decide +kernel) rfl
theorem ml_La_196 : Cond.methodLink RL 196 yL_grade ∈ WALL := WALL_at 1055 (by decide +kernel) rfl
theorem ml_La_81 : Cond.methodLink RL 81 yX5_grade ∈ WALL := WALL_at 1058 (by decide +kernel) rfl
theorem ml_Sp_241 : Cond.methodLink RX5 241 yX3_currentGrade ∈ WALL := WALL_at 1064 (by decide +kernel) rfl
theorem ml_Sp_248 : Cond.methodLink RX5 248 yX0_dropGradesFrom ∈ WALL := WALL_at 1065 (by decide +kernel) rfl
theorem ml_La_199 : Cond.methodLink RL 199 yL_passOn ∈ WALL := WALL_at 1069 (by decide +kernel) rfl
theorem ml_La_84 : Cond.methodLink RL 84 yX5_passOn ∈ WALL := WALL_at 1072 (by decide +kernel) rfl
theorem ml_La_202 : Cond.methodLink RL 202 yL_gradeOf ∈ WALL := WALL_at 1076 (by decide +kernel) rfl
theorem ml_La_87 : Cond.methodLink RL 87 yX5_gradeOf ∈ WALL := WALL_at 1079 (by decide +kernel) rfl
theorem ml_La_205 : Cond.methodLink RL 205 yL_gradeFrom ∈ WALL := WALL_at 1083 (by decide +kernel) rfl
theorem ml_La_90 : Cond.methodLink RL 90 yX5_gradeFrom ∈ WALL := WALL_at 1086 (by decide +kernel) rfl
theorem ml_La_208 : Cond.methodLink RL 208 yL_addVersion ∈ WALL := WALL_at 1090 (by decide +kernel) rfl
theorem ml_La_93 : Cond.methodLink RL 93 yX5_addVersion ∈ WALL := WALL_at 1093 (by decide +kernel) rfl
theorem ml_Sp_256 : Cond.methodLink RX5 256 yX5_hasVersion ∈ WALL := WALL_at 1098 (by decide +kernel) rfl
theorem nw_Ve : Cond.instantiable RX4 3 ∈ WALL ∧ Cond.initialized RX4 ∈ WALL := ⟨WALL_at 1104 (by decide +kernel) rfl, WALL_at 81 (by decide +kernel) rfl⟩
theorem ml_Sp_266 : Cond.methodLink RX5 266 yX4_init ∈ WALL := WALL_at 1105 (by decide +kernel) rfl
theorem ml_Ve_3 : Cond.methodLink RX4 3 objectInit ∈ WALL := WALL_at 1108 (by decide +kernel) rfl
theorem fl_Ve_15 : FL RX4 15 5 0 := FL_of (ref := "Spliceroom$Version") (WALL_at 1109 (by decide +kernel) rfl) rfl
theorem fl_Sp_273 : FL RX5 273 5 0 := FL_of (ref := "Spliceroom$Version") (WALL_at 1110 (by decide +kernel) rfl) rfl
theorem fl_Ve_19 : FL RX4 19 5 1 := FL_of (ref := "Spliceroom$Version") (WALL_at 1111 (by decide +kernel) rfl) rfl
theorem fl_Sp_367 : FL RX5 367 5 1 := FL_of (ref := "Spliceroom$Version") (WALL_at 1112 (by decide +kernel) rfl) rfl
theorem fl_Ve_9 : FL RX4 9 5 2 := FL_of (ref := "Spliceroom$Version") (WALL_at 1113 (by decide +kernel) rfl) rfl
theorem ml_La_211 : Cond.methodLink RL 211 yL_leaveOut ∈ WALL := WALL_at 1122 (by decide +kernel) rfl
theorem ml_La_96 : Cond.methodLink RL 96 yX5_leaveOut ∈ WALL := WALL_at 1125 (by decide +kernel) rfl
theorem ml_Sp_269 : Cond.methodLink RX5 269 yX5_versionNumbered ∈ WALL := WALL_at 1129 (by decide +kernel) rfl
theorem ml_Sp_274 : Cond.methodLink RX5 274 yX0_frameCount ∈ WALL := WALL_at 1134 (by decide +kernel) rfl
theorem ml_Fi_31 : Cond.methodLink RX0 31 yX0_framesBefore ∈ WALL := WALL_at 1138 (by decide +kernel) rfl
theorem ml_Sp_279 : Cond.methodLink RX5 279 Lib.Math.max.name ∈ WALL := WALL_at 1140 (by decide +kernel) rfl
theorem ml_La_215 : Cond.methodLink RL 215 yL_frames ∈ WALL := WALL_at 1141 (by decide +kernel) rfl
theorem ml_La_100 : Cond.methodLink RL 100 yX5_frames ∈ WALL := WALL_at 1144 (by decide +kernel) rfl
theorem ml_La_218 : Cond.methodLink RL 218 yL_lend ∈ WALL := WALL_at 1148 (by decide +kernel) rfl
theorem ml_La_103 : Cond.methodLink RL 103 yX5_lend ∈ WALL := WALL_at 1151 (by decide +kernel) rfl
theorem ml_Sp_297 : Cond.methodLink RX5 297 yX5_canFilmTake ∈ WALL := WALL_at 1155 (by decide +kernel) rfl
theorem cl_Sp_302 : Cond.classLink RX5 302 RX1 ∈ WALL := WALL_at 1160 (by decide +kernel) rfl
theorem nw_Lo : Cond.instantiable RX1 5 ∈ WALL ∧ Cond.initialized RX1 ∈ WALL := ⟨WALL_at 1161 (by decide +kernel) rfl, WALL_at 83 (by decide +kernel) rfl⟩
theorem ml_Sp_304 : Cond.methodLink RX5 304 yX1_init ∈ WALL := WALL_at 1162 (by decide +kernel) rfl
theorem ml_Lo_1 : Cond.methodLink RX1 1 objectInit ∈ WALL := WALL_at 1165 (by decide +kernel) rfl
theorem fl_Lo_7 : FL RX1 7 2 0 := FL_of (ref := "Spliceroom$Loan") (WALL_at 1166 (by decide +kernel) rfl) rfl
theorem fl_Sp_323 : FL RX5 323 2 0 := FL_of (ref := "Spliceroom$Loan") (WALL_at 1167 (by decide +kernel) rfl) rfl
theorem fl_Lo_17 : FL RX1 17 2 1 := FL_of (ref := "Spliceroom$Loan") (WALL_at 1168 (by decide +kernel) rfl) rfl
theorem fl_Sp_324 : FL RX5 324 2 1 := FL_of (ref := "Spliceroom$Loan") (WALL_at 1169 (by decide +kernel) rfl) rfl
theorem fl_Lo_20 : FL RX1 20 2 2 := FL_of (ref := "Spliceroom$Loan") (WALL_at 1170 (by decide +kernel) rfl) rfl
theorem fl_Sp_329 : FL RX5 329 2 2 := FL_of (ref := "Spliceroom$Loan") (WALL_at 1171 (by decide +kernel) rfl) rfl
theorem fl_Lo_13 : FL RX1 13 2 3 := FL_of (ref := "Spliceroom$Loan") (WALL_at 1172 (by decide +kernel) rfl) rfl
theorem fl_Sp_318 : FL RX5 318 2 3 := FL_of (ref := "Spliceroom$Loan") (WALL_at 1173 (by decide +kernel) rfl) rfl
theorem fl_Sp_315 : FL RX5 315 2 4 := FL_of (ref := "Spliceroom$Loan") (WALL_at 1174 (by decide +kernel) rfl) rfl
theorem ml_La_221 : Cond.methodLink RL 221 yL_show ∈ WALL := WALL_at 1186 (by decide +kernel) rfl
theorem ml_La_106 : Cond.methodLink RL 106 yX5_show ∈ WALL := WALL_at 1189 (by decide +kernel) rfl
theorem ml_Sp_311 : Cond.methodLink RX5 311 yX5_loanNumbered ∈ WALL := WALL_at 1193 (by decide +kernel) rfl
theorem ml_La_224 : Cond.methodLink RL 224 yL_giveBack ∈ WALL := WALL_at 1199 (by decide +kernel) rfl
theorem ml_La_109 : Cond.methodLink RL 109 yX5_giveBack ∈ WALL := WALL_at 1202 (by decide +kernel) rfl
theorem ml_La_227 : Cond.methodLink RL 227 yL_advance ∈ WALL := WALL_at 1207 (by decide +kernel) rfl
theorem ml_La_112 : Cond.methodLink RL 112 yX5_advance ∈ WALL := WALL_at 1210 (by decide +kernel) rfl
theorem ml_La_235 : Cond.methodLink RL 235 yL_keptShare ∈ WALL := WALL_at 1215 (by decide +kernel) rfl
theorem cl_La_119 : Cond.classLink RL 119 "java/lang/ArithmeticException" ∈ WALL := WALL_at 1218 (by decide +kernel) rfl
theorem ml_La_115 : Cond.methodLink RL 115 yX5_keptShare ∈ WALL := WALL_at 1232 (by decide +kernel) rfl
theorem cl_Sp_334 : Cond.classLink RX5 334 "java/lang/ArithmeticException" ∈ WALL := WALL_at 1236 (by decide +kernel) rfl
theorem ml_Sp_338 : Cond.methodLink RX5 338 (⟨"java/lang/ArithmeticException", "<init>", "(Ljava/lang/String;)V"⟩ : MethodName) ∈ WALL := WALL_at 1238 (by decide +kernel) rfl
theorem ml_La_239 : Cond.methodLink RL 239 yL_meanWear ∈ WALL := WALL_at 1239 (by decide +kernel) rfl
theorem ml_La_121 : Cond.methodLink RL 121 yX5_meanWear ∈ WALL := WALL_at 1242 (by decide +kernel) rfl
theorem ml_Sp_339 : Cond.methodLink RX5 339 yX2_wearSum ∈ WALL := WALL_at 1246 (by decide +kernel) rfl
theorem cl_La_126 : Cond.classLink RL 126 RX6 ∈ WALL := WALL_at 1251 (by decide +kernel) rfl
theorem nw_Mo : Cond.instantiable RX6 31 ∈ WALL ∧ Cond.initialized RX6 ∈ WALL := ⟨WALL_at 1252 (by decide +kernel) rfl, WALL_at 55 (by decide +kernel) rfl⟩
theorem ml_La_128 : Cond.methodLink RL 128 yX6_init ∈ WALL := WALL_at 1253 (by decide +kernel) rfl
theorem ml_Mo_1 : Cond.methodLink RX6 1 objectInit ∈ WALL := WALL_at 1256 (by decide +kernel) rfl
theorem fl_Mo_81 : FL RX6 81 7 0 := FL_of (ref := "SpliceroomModel") (WALL_at 1257 (by decide +kernel) rfl) rfl
theorem fl_Mo_84 : FL RX6 84 7 1 := FL_of (ref := "SpliceroomModel") (WALL_at 1258 (by decide +kernel) rfl) rfl
theorem fl_Mo_7 : FL RX6 7 7 2 := FL_of (ref := "SpliceroomModel") (WALL_at 1259 (by decide +kernel) rfl) rfl
theorem fl_Mo_13 : FL RX6 13 7 3 := FL_of (ref := "SpliceroomModel") (WALL_at 1260 (by decide +kernel) rfl) rfl
theorem fl_Mo_16 : FL RX6 16 7 4 := FL_of (ref := "SpliceroomModel") (WALL_at 1261 (by decide +kernel) rfl) rfl
theorem fl_Mo_19 : FL RX6 19 7 5 := FL_of (ref := "SpliceroomModel") (WALL_at 1262 (by decide +kernel) rfl) rfl
theorem fl_Mo_22 : FL RX6 22 7 6 := FL_of (ref := "SpliceroomModel") (WALL_at 1263 (by decide +kernel) rfl) rfl
theorem fl_Mo_25 : FL RX6 25 7 7 := FL_of (ref := "SpliceroomModel") (WALL_at 1264 (by decide +kernel) rfl) rfl
theorem fl_Mo_28 : FL RX6 28 7 8 := FL_of (ref := "SpliceroomModel") (WALL_at 1265 (by decide +kernel) rfl) rfl
theorem fl_Mo_31 : FL RX6 31 7 9 := FL_of (ref := "SpliceroomModel") (WALL_at 1266 (by decide +kernel) rfl) rfl
theorem fl_Mo_34 : FL RX6 34 7 10 := FL_of (ref := "SpliceroomModel") (WALL_at 1267 (by decide +kernel) rfl) rfl
theorem fl_Mo_37 : FL RX6 37 7 11 := FL_of (ref := "SpliceroomModel") (WALL_at 1268 (by decide +kernel) rfl) rfl
theorem fl_Mo_91 : FL RX6 91 7 12 := FL_of (ref := "SpliceroomModel") (WALL_at 1269 (by decide +kernel) rfl) rfl
theorem fl_Mo_40 : FL RX6 40 7 13 := FL_of (ref := "SpliceroomModel") (WALL_at 1270 (by decide +kernel) rfl) rfl
theorem fl_Mo_43 : FL RX6 43 7 14 := FL_of (ref := "SpliceroomModel") (WALL_at 1271 (by decide +kernel) rfl) rfl
theorem fl_Mo_46 : FL RX6 46 7 15 := FL_of (ref := "SpliceroomModel") (WALL_at 1272 (by decide +kernel) rfl) rfl
theorem fl_Mo_49 : FL RX6 49 7 16 := FL_of (ref := "SpliceroomModel") (WALL_at 1273 (by decide +kernel) rfl) rfl
theorem fl_Mo_94 : FL RX6 94 7 17 := FL_of (ref := "SpliceroomModel") (WALL_at 1274 (by decide +kernel) rfl) rfl
theorem fl_Mo_52 : FL RX6 52 7 18 := FL_of (ref := "SpliceroomModel") (WALL_at 1275 (by decide +kernel) rfl) rfl
theorem fl_Mo_56 : FL RX6 56 7 19 := FL_of (ref := "SpliceroomModel") (WALL_at 1276 (by decide +kernel) rfl) rfl
theorem fl_Mo_59 : FL RX6 59 7 20 := FL_of (ref := "SpliceroomModel") (WALL_at 1277 (by decide +kernel) rfl) rfl
theorem fl_Mo_97 : FL RX6 97 7 21 := FL_of (ref := "SpliceroomModel") (WALL_at 1278 (by decide +kernel) rfl) rfl
theorem fl_Mo_62 : FL RX6 62 7 22 := FL_of (ref := "SpliceroomModel") (WALL_at 1279 (by decide +kernel) rfl) rfl
theorem fl_Mo_65 : FL RX6 65 7 23 := FL_of (ref := "SpliceroomModel") (WALL_at 1280 (by decide +kernel) rfl) rfl
theorem fl_Mo_68 : FL RX6 68 7 24 := FL_of (ref := "SpliceroomModel") (WALL_at 1281 (by decide +kernel) rfl) rfl
theorem fl_Mo_71 : FL RX6 71 7 25 := FL_of (ref := "SpliceroomModel") (WALL_at 1282 (by decide +kernel) rfl) rfl
theorem fl_Mo_74 : FL RX6 74 7 26 := FL_of (ref := "SpliceroomModel") (WALL_at 1283 (by decide +kernel) rfl) rfl
theorem fl_Mo_77 : FL RX6 77 7 27 := FL_of (ref := "SpliceroomModel") (WALL_at 1284 (by decide +kernel) rfl) rfl
theorem fl_Mo_100 : FL RX6 100 7 28 := FL_of (ref := "SpliceroomModel") (WALL_at 1285 (by decide +kernel) rfl) rfl
theorem fl_Mo_181 : FL RX6 181 7 29 := FL_of (ref := "SpliceroomModel") (WALL_at 1286 (by decide +kernel) rfl) rfl
theorem fl_Mo_152 : FL RX6 152 7 30 := FL_of (ref := "SpliceroomModel") (WALL_at 1287 (by decide +kernel) rfl) rfl
theorem ml_La_135 : Cond.methodLink RL 135 yX6_thrown ∈ WALL := WALL_at 1353 (by decide +kernel) rfl
theorem ml_La_134 : Cond.methodLink RL 134 yX6_addFilm ∈ WALL := WALL_at 1357 (by decide +kernel) rfl
theorem ml_Mo_103 : Cond.methodLink RX6 103 yX6_goesOn ∈ WALL := WALL_at 1361 (by decide +kernel) rfl
theorem ml_La_141 : Cond.methodLink RL 141 yX6_addShot ∈ WALL := WALL_at 1365 (by decide +kernel) rfl
theorem ml_Mo_107 : Cond.methodLink RX6 107 yX6_isFilm ∈ WALL := WALL_at 1369 (by decide +kernel) rfl
theorem ml_Mo_87 : Cond.methodLink RX6 87 yX6_in ∈ WALL := WALL_at 1373 (by decide +kernel) rfl
theorem ml_Mo_110 : Cond.methodLink RX6 110 yX6_areFine ∈ WALL := WALL_at 1376 (by decide +kernel) rfl
theorem ml_Mo_114 : Cond.methodLink RX6 114 yX6_makes ∈ WALL := WALL_at 1379 (by decide +kernel) rfl
theorem ml_La_145 : Cond.methodLink RL 145 yX6_addReel ∈ WALL := WALL_at 1383 (by decide +kernel) rfl
theorem ml_La_149 : Cond.methodLink RL 149 yX6_put ∈ WALL := WALL_at 1387 (by decide +kernel) rfl
theorem ml_Mo_118 : Cond.methodLink RX6 118 yX6_isReel ∈ WALL := WALL_at 1391 (by decide +kernel) rfl
theorem ml_Mo_121 : Cond.methodLink RX6 121 yX6_isShot ∈ WALL := WALL_at 1395 (by decide +kernel) rfl
theorem ml_Mo_124 : Cond.methodLink RX6 124 yX6_placeOf ∈ WALL := WALL_at 1399 (by decide +kernel) rfl
theorem ml_Mo_128 : Cond.methodLink RX6 128 yX6_lastOf ∈ WALL := WALL_at 1403 (by decide +kernel) rfl
theorem ml_Mo_131 : Cond.methodLink RX6 131 yX6_isLent ∈ WALL := WALL_at 1407 (by decide +kernel) rfl
theorem ml_Mo_134 : Cond.methodLink RX6 134 yX6_adds ∈ WALL := WALL_at 1411 (by decide +kernel) rfl
theorem ml_La_153 : Cond.methodLink RL 153 yX6_found ∈ WALL := WALL_at 1415 (by decide +kernel) rfl
theorem ml_La_156 : Cond.methodLink RL 156 yX6_join ∈ WALL := WALL_at 1419 (by decide +kernel) rfl
theorem ml_La_159 : Cond.methodLink RL 159 yX6_shots ∈ WALL := WALL_at 1423 (by decide +kernel) rfl
theorem ml_La_162 : Cond.methodLink RL 162 yX6_shotOf ∈ WALL := WALL_at 1427 (by decide +kernel) rfl
theorem ml_La_165 : Cond.methodLink RL 165 yX6_lengthOf ∈ WALL := WALL_at 1431 (by decide +kernel) rfl
theorem ml_La_168 : Cond.methodLink RL 168 yX6_frameOf ∈ WALL := WALL_at 1435 (by decide +kernel) rfl
theorem ml_Mo_138 : Cond.methodLink RX6 138 yX6_framesAhead ∈ WALL := WALL_at 1439 (by decide +kernel) rfl
theorem ml_La_171 : Cond.methodLink RL 171 yX6_shotAt ∈ WALL := WALL_at 1443 (by decide +kernel) rfl
theorem ml_Mo_142 : Cond.methodLink RX6 142 yX6_shotWith ∈ WALL := WALL_at 1447 (by decide +kernel) rfl
theorem ml_La_174 : Cond.methodLink RL 174 yX6_reelOf ∈ WALL := WALL_at 1451 (by decide +kernel) rfl
theorem ml_La_177 : Cond.methodLink RL 177 yX6_setLimit ∈ WALL := WALL_at 1455 (by decide +kernel) rfl
theorem ml_Mo_145 : Cond.methodLink RX6 145 yX6_greatest ∈ WALL := WALL_at 1459 (by decide +kernel) rfl
theorem ml_Mo_148 : Cond.methodLink RX6 148 yX6_hasLoan ∈ WALL := WALL_at 1463 (by decide +kernel) rfl
theorem ml_La_180 : Cond.methodLink RL 180 yX6_run ∈ WALL := WALL_at 1467 (by decide +kernel) rfl
theorem ml_Mo_159 : Cond.methodLink RX6 159 yX6_bears ∈ WALL := WALL_at 1471 (by decide +kernel) rfl
theorem ml_Mo_162 : Cond.methodLink RX6 162 yX6_wears ∈ WALL := WALL_at 1475 (by decide +kernel) rfl
theorem ml_Mo_156 : Cond.methodLink RX6 156 yX6_framesOn ∈ WALL := WALL_at 1479 (by decide +kernel) rfl
theorem ml_La_183 : Cond.methodLink RL 183 yX6_wear ∈ WALL := WALL_at 1483 (by decide +kernel) rfl
theorem ml_Mo_166 : Cond.methodLink RX6 166 yX6_isSplice ∈ WALL := WALL_at 1487 (by decide +kernel) rfl
theorem ml_La_186 : Cond.methodLink RL 186 yX6_mend ∈ WALL := WALL_at 1491 (by decide +kernel) rfl
theorem ml_La_189 : Cond.methodLink RL 189 yX6_scan ∈ WALL := WALL_at 1495 (by decide +kernel) rfl
theorem ml_Mo_169 : Cond.methodLink RX6 169 yX6_isWorn ∈ WALL := WALL_at 1499 (by decide +kernel) rfl
theorem ml_La_192 : Cond.methodLink RL 192 yX6_scanned ∈ WALL := WALL_at 1503 (by decide +kernel) rfl
theorem ml_La_195 : Cond.methodLink RL 195 yX6_missed ∈ WALL := WALL_at 1507 (by decide +kernel) rfl
theorem ml_La_198 : Cond.methodLink RL 198 yX6_grade ∈ WALL := WALL_at 1511 (by decide +kernel) rfl
theorem ml_Mo_172 : Cond.methodLink RX6 172 yX6_gradeNow ∈ WALL := WALL_at 1515 (by decide +kernel) rfl
theorem ml_La_201 : Cond.methodLink RL 201 yX6_passOn ∈ WALL := WALL_at 1519 (by decide +kernel) rfl
theorem ml_La_204 : Cond.methodLink RL 204 yX6_gradeOf ∈ WALL := WALL_at 1523 (by decide +kernel) rfl
theorem ml_La_207 : Cond.methodLink RL 207 yX6_gradeFrom ∈ WALL := WALL_at 1527 (by decide +kernel) rfl
theorem ml_La_210 : Cond.methodLink RL 210 yX6_addVersion ∈ WALL := WALL_at 1531 (by decide +kernel) rfl
theorem ml_La_214 : Cond.methodLink RL 214 yX6_leaveOut ∈ WALL := WALL_at 1535 (by decide +kernel) rfl
theorem ml_Mo_175 : Cond.methodLink RX6 175 yX6_isVersion ∈ WALL := WALL_at 1539 (by decide +kernel) rfl
theorem ml_Mo_178 : Cond.methodLink RX6 178 yX6_isOutOf ∈ WALL := WALL_at 1543 (by decide +kernel) rfl
theorem ml_La_217 : Cond.methodLink RL 217 yX6_frames ∈ WALL := WALL_at 1547 (by decide +kernel) rfl
theorem ml_La_220 : Cond.methodLink RL 220 yX6_lend ∈ WALL := WALL_at 1551 (by decide +kernel) rfl
theorem ml_La_223 : Cond.methodLink RL 223 yX6_show ∈ WALL := WALL_at 1555 (by decide +kernel) rfl
theorem ml_Mo_184 : Cond.methodLink RX6 184 yX6_isLoan ∈ WALL := WALL_at 1559 (by decide +kernel) rfl
theorem ml_La_226 : Cond.methodLink RL 226 yX6_giveBack ∈ WALL := WALL_at 1563 (by decide +kernel) rfl
theorem ml_La_229 : Cond.methodLink RL 229 yX6_advance ∈ WALL := WALL_at 1567 (by decide +kernel) rfl
theorem ml_La_234 : Cond.methodLink RL 234 yX6_shown ∈ WALL := WALL_at 1571 (by decide +kernel) rfl
theorem ml_La_238 : Cond.methodLink RL 238 yX6_keptShare ∈ WALL := WALL_at 1575 (by decide +kernel) rfl
theorem ml_La_241 : Cond.methodLink RL 241 yX6_meanWear ∈ WALL := WALL_at 1579 (by decide +kernel) rfl
theorem ml_La_246 : Cond.methodLink RL 246 yX6_isSound ∈ WALL := WALL_at 1583 (by decide +kernel) rfl
theorem cal_X5_init : Cal yX5_init cX5_init 1 none 0 := ⟨by decide +kernel, ⟨by decide +kernel, by decide +kernel, by decide +kernel⟩, WALL_at 89 (by decide +kernel) rfl, WALL_at 51 (by decide +kernel) rfl⟩
theorem in_X5_init : Cond.instanceMethod yX5_init ∈ WALL := WALL_at 88 (by decide +kernel) rfl
theorem cal_Jx4a65c_init_da8c8 : Cal yJx4a65c_init_da8c8 cJx4a65c_init_da8c8 1 none 0 := ⟨by decide +kernel, ⟨by decide +kernel, by decide +kernel, by decide +kernel⟩, WALL_at 97 (by decide +kernel) rfl, WALL_at 54 (by decide +kernel) rfl⟩
theorem in_Jx4a65c_init_da8c8 : Cond.instanceMethod yJx4a65c_init_da8c8 ∈ WALL := WALL_at 96 (by decide +kernel) rfl
theorem cal_Jxc12de_init_da8c8 : Cal yJxc12de_init_da8c8 cJxc12de_init_da8c8 1 none 0 := ⟨by decide +kernel, ⟨by decide +kernel, by decide +kernel, by decide +kernel⟩, WALL_at 100 (by decide +kernel) rfl, WALL_at 53 (by decide +kernel) rfl⟩
theorem in_Jxc12de_init_da8c8 : Cond.instanceMethod yJxc12de_init_da8c8 ∈ WALL := WALL_at 99 (by decide +kernel) rfl
theorem cal_Jxa1e45_init_da8c8 : Cal yJxa1e45_init_da8c8 cJxa1e45_init_da8c8 1 none 0 := ⟨by decide +kernel, ⟨by decide +kernel, by decide +kernel, by decide +kernel⟩, WALL_at 103 (by decide +kernel) rfl, WALL_at 52 (by decide +kernel) rfl⟩
theorem in_Jxa1e45_init_da8c8 : Cond.instanceMethod yJxa1e45_init_da8c8 ∈ WALL := WALL_at 102 (by decide +kernel) rfl
theorem cal_X5_shown : Cal yX5_shown cX5_shown 1 (some FieldType.long) 0 := ⟨by decide +kernel, ⟨by decide +kernel, by decide +kernel, by decide +kernel⟩, WALL_at 147 (by decide +kernel) rfl, WALL_at 51 (by decide +kernel) rfl⟩
theorem vi_X5_shown : Cond.instanceMethod yX5_shown ∈ WALL ∧ Cond.selects RX5 yX5_shown yX5_shown ∈ WALL := ⟨WALL_at 145 (by decide +kernel) rfl, WALL_at 146 (by decide +kernel) rfl⟩
theorem cal_X5_isSound : Cal yX5_isSound cX5_isSound 1 (some FieldType.boolean) 0 := ⟨by decide +kernel, ⟨by decide +kernel, by decide +kernel, by decide +kernel⟩, WALL_at 151 (by decide +kernel) rfl, WALL_at 51 (by decide +kernel) rfl⟩
theorem vi_X5_isSound : Cond.instanceMethod yX5_isSound ∈ WALL ∧ Cond.selects RX5 yX5_isSound yX5_isSound ∈ WALL := ⟨WALL_at 149 (by decide +kernel) rfl, WALL_at 150 (by decide +kernel) rfl⟩
theorem cal_X5_isWearWithin : Cal yX5_isWearWithin cX5_isWearWithin 3 (some FieldType.boolean) 1 := ⟨by decide +kernel, ⟨by decide +kernel, by decide +kernel, by decide +kernel⟩, WALL_at 155 (by decide +kernel) rfl, WALL_at 51 (by decide +kernel) rfl⟩
theorem vi_X5_isWearWithin : Cond.instanceMethod yX5_isWearWithin ∈ WALL ∧ Cond.selects RX5 yX5_isWearWithin yX5_isWearWithin ∈ WALL := ⟨WALL_at 154 (by decide +kernel) rfl, WALL_at 0 (by decide +kernel) rfl⟩
theorem cal_Jx4a65c_size_8abf5 : Cal yJx4a65c_size_8abf5 cJx4a65c_size_8abf5 1 (some FieldType.int) 0 := ⟨by decide +kernel, ⟨by decide +kernel, by decide +kernel, by decide +kernel⟩, WALL_at 159 (by decide +kernel) rfl, WALL_at 54 (by decide +kernel) rfl⟩
theorem vi_Jx4a65c_size_8abf5 : Cond.instanceMethod yJx4a65c_size_8abf5 ∈ WALL ∧ Cond.selects RJx4a65c yJx4a65c_size_8abf5 yJx4a65c_size_8abf5 ∈ WALL := ⟨WALL_at 157 (by decide +kernel) rfl, WALL_at 158 (by decide +kernel) rfl⟩
theorem cal_Jx4a65c_get_915e3 : Cal yJx4a65c_get_915e3 cJx4a65c_get_915e3 2 (some (FieldType.object "java/lang/Object")) 1 := ⟨by decide +kernel, ⟨by decide +kernel, by decide +kernel, by decide +kernel⟩, WALL_at 163 (by decide +kernel) rfl, WALL_at 54 (by decide +kernel) rfl⟩
theorem vi_Jx4a65c_get_915e3 : Cond.instanceMethod yJx4a65c_get_915e3 ∈ WALL ∧ Cond.selects RJx4a65c yJx4a65c_get_915e3 yJx4a65c_get_915e3 ∈ WALL := ⟨WALL_at 161 (by decide +kernel) rfl, WALL_at 162 (by decide +kernel) rfl⟩
theorem cal_J15_checkIndex_7cf53 : Cal yJ15_checkIndex_7cf53 cJ15_checkIndex_7cf53 2 (some FieldType.int) 2 := ⟨by decide +kernel, ⟨by decide +kernel, by decide +kernel, by decide +kernel⟩, WALL_at 166 (by decide +kernel) rfl, WALL_at 68 (by decide +kernel) rfl⟩
theorem st_J15_checkIndex_7cf53 : Cond.static yJ15_checkIndex_7cf53 ∈ WALL := WALL_at 165 (by decide +kernel) rfl
theorem cal_J3_checkIndex_8e157 : Cal yJ3_checkIndex_8e157 cJ3_checkIndex_8e157 3 (some FieldType.int) 3 := ⟨by decide +kernel, ⟨by decide +kernel, by decide +kernel, by decide +kernel⟩, WALL_at 169 (by decide +kernel) rfl, WALL_at 69 (by decide +kernel) rfl⟩
theorem st_J3_checkIndex_8e157 : Cond.static yJ3_checkIndex_8e157 ∈ WALL := WALL_at 168 (by decide +kernel) rfl
theorem cal_Jx4a65c_elementData_915e3 : Cal yJx4a65c_elementData_915e3 cJx4a65c_elementData_915e3 2 (some (FieldType.object "java/lang/Object")) 1 := ⟨by decide +kernel, ⟨by decide +kernel, by decide +kernel, by decide +kernel⟩, WALL_at 173 (by decide +kernel) rfl, WALL_at 54 (by decide +kernel) rfl⟩
theorem vi_Jx4a65c_elementData_915e3 : Cond.instanceMethod yJx4a65c_elementData_915e3 ∈ WALL ∧ Cond.selects RJx4a65c yJx4a65c_elementData_915e3 yJx4a65c_elementData_915e3 ∈ WALL := ⟨WALL_at 171 (by decide +kernel) rfl, WALL_at 172 (by decide +kernel) rfl⟩
theorem cal_X2_canTake : Cal yX2_canTake cX2_canTake 4 (some FieldType.boolean) 2 := ⟨by decide +kernel, ⟨by decide +kernel, by decide +kernel, by decide +kernel⟩, WALL_at 178 (by decide +kernel) rfl, WALL_at 72 (by decide +kernel) rfl⟩
theorem vi_X2_canTake : Cond.instanceMethod yX2_canTake ∈ WALL ∧ Cond.selects RX2 yX2_canTake yX2_canTake ∈ WALL := ⟨WALL_at 176 (by decide +kernel) rfl, WALL_at 177 (by decide +kernel) rfl⟩
theorem cal_X5_arePassedGradesSound : Cal yX5_arePassedGradesSound cX5_arePassedGradesSound 4 (some FieldType.boolean) 0 := ⟨by decide +kernel, ⟨by decide +kernel, by decide +kernel, by decide +kernel⟩, WALL_at 185 (by decide +kernel) rfl, WALL_at 51 (by decide +kernel) rfl⟩
theorem vi_X5_arePassedGradesSound : Cond.instanceMethod yX5_arePassedGradesSound ∈ WALL ∧ Cond.selects RX5 yX5_arePassedGradesSound yX5_arePassedGradesSound ∈ WALL := ⟨WALL_at 184 (by decide +kernel) rfl, WALL_at 1 (by decide +kernel) rfl⟩
theorem cal_X3_canHavePassedTo : Cal yX3_canHavePassedTo cX3_canHavePassedTo 2 (some FieldType.boolean) 1 := ⟨by decide +kernel, ⟨by decide +kernel, by decide +kernel, by decide +kernel⟩, WALL_at 190 (by decide +kernel) rfl, WALL_at 71 (by decide +kernel) rfl⟩
theorem vi_X3_canHavePassedTo : Cond.instanceMethod yX3_canHavePassedTo ∈ WALL ∧ Cond.selects RX3 yX3_canHavePassedTo yX3_canHavePassedTo ∈ WALL := ⟨WALL_at 188 (by decide +kernel) rfl, WALL_at 189 (by decide +kernel) rfl⟩
theorem cal_X3_currentGrade : Cal yX3_currentGrade cX3_currentGrade 1 (some FieldType.int) 0 := ⟨by decide +kernel, ⟨by decide +kernel, by decide +kernel, by decide +kernel⟩, WALL_at 194 (by decide +kernel) rfl, WALL_at 71 (by decide +kernel) rfl⟩
theorem vi_X3_currentGrade : Cond.instanceMethod yX3_currentGrade ∈ WALL ∧ Cond.selects RX3 yX3_currentGrade yX3_currentGrade ∈ WALL := ⟨WALL_at 192 (by decide +kernel) rfl, WALL_at 193 (by decide +kernel) rfl⟩
theorem cal_X5_areVersionLengthsSound : Cal yX5_areVersionLengthsSound cX5_areVersionLengthsSound 3 (some FieldType.boolean) 0 := ⟨by decide +kernel, ⟨by decide +kernel, by decide +kernel, by decide +kernel⟩, WALL_at 198 (by decide +kernel) rfl, WALL_at 51 (by decide +kernel) rfl⟩
theorem vi_X5_areVersionLengthsSound : Cond.instanceMethod yX5_areVersionLengthsSound ∈ WALL ∧ Cond.selects RX5 yX5_areVersionLengthsSound yX5_areVersionLengthsSound ∈ WALL := ⟨WALL_at 197 (by decide +kernel) rfl, WALL_at 2 (by decide +kernel) rfl⟩
theorem cal_X4_lengthByShots : Cal yX4_lengthByShots cX4_lengthByShots 4 (some FieldType.int) 0 := ⟨by decide +kernel, ⟨by decide +kernel, by decide +kernel, by decide +kernel⟩, WALL_at 203 (by decide +kernel) rfl, WALL_at 81 (by decide +kernel) rfl⟩
theorem vi_X4_lengthByShots : Cond.instanceMethod yX4_lengthByShots ∈ WALL ∧ Cond.selects RX4 yX4_lengthByShots yX4_lengthByShots ∈ WALL := ⟨WALL_at 201 (by decide +kernel) rfl, WALL_at 202 (by decide +kernel) rfl⟩
theorem cal_X3_keptFrames : Cal yX3_keptFrames cX3_keptFrames 1 (some FieldType.int) 0 := ⟨by decide +kernel, ⟨by decide +kernel, by decide +kernel, by decide +kernel⟩, WALL_at 210 (by decide +kernel) rfl, WALL_at 71 (by decide +kernel) rfl⟩
theorem vi_X3_keptFrames : Cond.instanceMethod yX3_keptFrames ∈ WALL ∧ Cond.selects RX3 yX3_keptFrames yX3_keptFrames ∈ WALL := ⟨WALL_at 208 (by decide +kernel) rfl, WALL_at 209 (by decide +kernel) rfl⟩
theorem cal_X4_leftOutOf : Cal yX4_leftOutOf cX4_leftOutOf 5 (some FieldType.int) 1 := ⟨by decide +kernel, ⟨by decide +kernel, by decide +kernel, by decide +kernel⟩, WALL_at 214 (by decide +kernel) rfl, WALL_at 81 (by decide +kernel) rfl⟩
theorem vi_X4_leftOutOf : Cond.instanceMethod yX4_leftOutOf ∈ WALL ∧ Cond.selects RX4 yX4_leftOutOf yX4_leftOutOf ∈ WALL := ⟨WALL_at 212 (by decide +kernel) rfl, WALL_at 213 (by decide +kernel) rfl⟩
theorem cal_J13_bitCount_95d88 : Cal yJ13_bitCount_95d88 cJ13_bitCount_95d88 2 (some FieldType.int) 1 := ⟨by decide +kernel, ⟨by decide +kernel, by decide +kernel, by decide +kernel⟩, WALL_at 217 (by decide +kernel) rfl, WALL_at 82 (by decide +kernel) rfl⟩
theorem st_J13_bitCount_95d88 : Cond.static yJ13_bitCount_95d88 ∈ WALL := WALL_at 216 (by decide +kernel) rfl
theorem cal_X4_lengthByFrames : Cal yX4_lengthByFrames cX4_lengthByFrames 6 (some FieldType.int) 0 := ⟨by decide +kernel, ⟨by decide +kernel, by decide +kernel, by decide +kernel⟩, WALL_at 224 (by decide +kernel) rfl, WALL_at 81 (by decide +kernel) rfl⟩
theorem vi_X4_lengthByFrames : Cond.instanceMethod yX4_lengthByFrames ∈ WALL ∧ Cond.selects RX4 yX4_lengthByFrames yX4_lengthByFrames ∈ WALL := ⟨WALL_at 222 (by decide +kernel) rfl, WALL_at 223 (by decide +kernel) rfl⟩
theorem cal_X4_isLeftOut : Cal yX4_isLeftOut cX4_isLeftOut 4 (some FieldType.boolean) 2 := ⟨by decide +kernel, ⟨by decide +kernel, by decide +kernel, by decide +kernel⟩, WALL_at 228 (by decide +kernel) rfl, WALL_at 81 (by decide +kernel) rfl⟩
theorem vi_X4_isLeftOut : Cond.instanceMethod yX4_isLeftOut ∈ WALL ∧ Cond.selects RX4 yX4_isLeftOut yX4_isLeftOut ∈ WALL := ⟨WALL_at 226 (by decide +kernel) rfl, WALL_at 227 (by decide +kernel) rfl⟩
theorem st_L_addFilm : Cond.static yL_addFilm ∈ WALL := WALL_at 230 (by decide +kernel) rfl
theorem cal_X5_addFilm : Cal yX5_addFilm cX5_addFilm 1 (some FieldType.int) 0 := ⟨by decide +kernel, ⟨by decide +kernel, by decide +kernel, by decide +kernel⟩, WALL_at 236 (by decide +kernel) rfl, WALL_at 51 (by decide +kernel) rfl⟩
theorem vi_X5_addFilm : Cond.instanceMethod yX5_addFilm ∈ WALL ∧ Cond.selects RX5 yX5_addFilm yX5_addFilm ∈ WALL := ⟨WALL_at 234 (by decide +kernel) rfl, WALL_at 235 (by decide +kernel) rfl⟩
theorem cal_X0_init : Cal yX0_init cX0_init 1 none 0 := ⟨by decide +kernel, ⟨by decide +kernel, by decide +kernel, by decide +kernel⟩, WALL_at 313 (by decide +kernel) rfl, WALL_at 60 (by decide +kernel) rfl⟩
theorem in_X0_init : Cond.instanceMethod yX0_init ∈ WALL := WALL_at 312 (by decide +kernel) rfl
theorem cal_Jx4a65c_add_9ea2d : Cal yJx4a65c_add_9ea2d cJx4a65c_add_9ea2d 2 (some FieldType.boolean) 1 := ⟨by decide +kernel, ⟨by decide +kernel, by decide +kernel, by decide +kernel⟩, WALL_at 329 (by decide +kernel) rfl, WALL_at 54 (by decide +kernel) rfl⟩
theorem vi_Jx4a65c_add_9ea2d : Cond.instanceMethod yJx4a65c_add_9ea2d ∈ WALL ∧ Cond.selects RJx4a65c yJx4a65c_add_9ea2d yJx4a65c_add_9ea2d ∈ WALL := ⟨WALL_at 327 (by decide +kernel) rfl, WALL_at 328 (by decide +kernel) rfl⟩
theorem cal_Jx4a65c_add_72be8 : Cal yJx4a65c_add_72be8 cJx4a65c_add_72be8 4 none 3 := ⟨by decide +kernel, ⟨by decide +kernel, by decide +kernel, by decide +kernel⟩, WALL_at 333 (by decide +kernel) rfl, WALL_at 54 (by decide +kernel) rfl⟩
theorem vi_Jx4a65c_add_72be8 : Cond.instanceMethod yJx4a65c_add_72be8 ∈ WALL ∧ Cond.selects RJx4a65c yJx4a65c_add_72be8 yJx4a65c_add_72be8 ∈ WALL := ⟨WALL_at 332 (by decide +kernel) rfl, WALL_at 4 (by decide +kernel) rfl⟩
theorem cal_Jx4a65c_grow_d5877 : Cal yJx4a65c_grow_d5877 cJx4a65c_grow_d5877 1 (some (FieldType.array (FieldType.object "java/lang/Object"))) 0 := ⟨by decide +kernel, ⟨by decide +kernel, by decide +kernel, by decide +kernel⟩, WALL_at 337 (by decide +kernel) rfl, WALL_at 54 (by decide +kernel) rfl⟩
theorem vi_Jx4a65c_grow_d5877 : Cond.instanceMethod yJx4a65c_grow_d5877 ∈ WALL ∧ Cond.selects RJx4a65c yJx4a65c_grow_d5877 yJx4a65c_grow_d5877 ∈ WALL := ⟨WALL_at 336 (by decide +kernel) rfl, WALL_at 5 (by decide +kernel) rfl⟩
theorem cal_Jx4a65c_grow_92f84 : Cal yJx4a65c_grow_92f84 cJx4a65c_grow_92f84 4 (some (FieldType.array (FieldType.object "java/lang/Object"))) 1 := ⟨by decide +kernel, ⟨by decide +kernel, by decide +kernel, by decide +kernel⟩, WALL_at 341 (by decide +kernel) rfl, WALL_at 54 (by decide +kernel) rfl⟩
theorem vi_Jx4a65c_grow_92f84 : Cond.instanceMethod yJx4a65c_grow_92f84 ∈ WALL ∧ Cond.selects RJx4a65c yJx4a65c_grow_92f84 yJx4a65c_grow_92f84 ∈ WALL := ⟨WALL_at 340 (by decide +kernel) rfl, WALL_at 6 (by decide +kernel) rfl⟩
theorem cal_J8_newLength_cabcc : Cal yJ8_newLength_cabcc cJ8_newLength_cabcc 4 (some FieldType.int) 3 := ⟨by decide +kernel, ⟨by decide +kernel, by decide +kernel, by decide +kernel⟩, WALL_at 344 (by decide +kernel) rfl, WALL_at 61 (by decide +kernel) rfl⟩
theorem st_J8_newLength_cabcc : Cond.static yJ8_newLength_cabcc ∈ WALL := WALL_at 343 (by decide +kernel) rfl
theorem st_J9_max_7cf53 : Cond.static yJ9_max_7cf53 ∈ WALL := WALL_at 346 (by decide +kernel) rfl
theorem cal_J8_hugeLength_7cf53 : Cal yJ8_hugeLength_7cf53 cJ8_hugeLength_7cf53 3 (some FieldType.int) 2 := ⟨by decide +kernel, ⟨by decide +kernel, by decide +kernel, by decide +kernel⟩, WALL_at 351 (by decide +kernel) rfl, WALL_at 61 (by decide +kernel) rfl⟩
theorem st_J8_hugeLength_7cf53 : Cond.static yJ8_hugeLength_7cf53 ∈ WALL := WALL_at 350 (by decide +kernel) rfl
theorem cal_J7_copyOf_1904c : Cal yJ7_copyOf_1904c cJ7_copyOf_1904c 2 (some (FieldType.array (FieldType.object "java/lang/Object"))) 2 := ⟨by decide +kernel, ⟨by decide +kernel, by decide +kernel, by decide +kernel⟩, WALL_at 354 (by decide +kernel) rfl, WALL_at 63 (by decide +kernel) rfl⟩
theorem st_J7_copyOf_1904c : Cond.static yJ7_copyOf_1904c ∈ WALL := WALL_at 353 (by decide +kernel) rfl
theorem cal_J7_copyOf_6403c : Cal yJ7_copyOf_6403c cJ7_copyOf_6403c 4 (some (FieldType.array (FieldType.object "java/lang/Object"))) 3 := ⟨by decide +kernel, ⟨by decide +kernel, by decide +kernel, by decide +kernel⟩, WALL_at 378 (by decide +kernel) rfl, WALL_at 63 (by decide +kernel) rfl⟩
theorem st_J7_copyOf_6403c : Cond.static yJ7_copyOf_6403c ∈ WALL := WALL_at 377 (by decide +kernel) rfl
theorem st_J9_min_7cf53 : Cond.static yJ9_min_7cf53 ∈ WALL := WALL_at 383 (by decide +kernel) rfl
theorem st_L_addShot : Cond.static yL_addShot ∈ WALL := WALL_at 391 (by decide +kernel) rfl
theorem cal_X5_addShot : Cal yX5_addShot cX5_addShot 6 (some FieldType.int) 3 := ⟨by decide +kernel, ⟨by decide +kernel, by decide +kernel, by decide +kernel⟩, WALL_at 421 (by decide +kernel) rfl, WALL_at 51 (by decide +kernel) rfl⟩
theorem vi_X5_addShot : Cond.instanceMethod yX5_addShot ∈ WALL ∧ Cond.selects RX5 yX5_addShot yX5_addShot ∈ WALL := ⟨WALL_at 419 (by decide +kernel) rfl, WALL_at 420 (by decide +kernel) rfl⟩
theorem cal_X5_filmNumbered : Cal yX5_filmNumbered cX5_filmNumbered 2 (some (FieldType.object "Spliceroom$Film")) 1 := ⟨by decide +kernel, ⟨by decide +kernel, by decide +kernel, by decide +kernel⟩, WALL_at 425 (by decide +kernel) rfl, WALL_at 51 (by decide +kernel) rfl⟩
theorem vi_X5_filmNumbered : Cond.instanceMethod yX5_filmNumbered ∈ WALL ∧ Cond.selects RX5 yX5_filmNumbered yX5_filmNumbered ∈ WALL := ⟨WALL_at 424 (by decide +kernel) rfl, WALL_at 7 (by decide +kernel) rfl⟩
theorem cal_X5_requireLengthAndScene : Cal yX5_requireLengthAndScene cX5_requireLengthAndScene 3 none 2 := ⟨by decide +kernel, ⟨by decide +kernel, by decide +kernel, by decide +kernel⟩, WALL_at 442 (by decide +kernel) rfl, WALL_at 51 (by decide +kernel) rfl⟩
theorem vi_X5_requireLengthAndScene : Cond.instanceMethod yX5_requireLengthAndScene ∈ WALL ∧ Cond.selects RX5 yX5_requireLengthAndScene yX5_requireLengthAndScene ∈ WALL := ⟨WALL_at 441 (by decide +kernel) rfl, WALL_at 8 (by decide +kernel) rfl⟩
theorem cal_X5_newShot : Cal yX5_newShot cX5_newShot 5 (some (FieldType.object "Spliceroom$Shot")) 3 := ⟨by decide +kernel, ⟨by decide +kernel, by decide +kernel, by decide +kernel⟩, WALL_at 463 (by decide +kernel) rfl, WALL_at 51 (by decide +kernel) rfl⟩
theorem vi_X5_newShot : Cond.instanceMethod yX5_newShot ∈ WALL ∧ Cond.selects RX5 yX5_newShot yX5_newShot ∈ WALL := ⟨WALL_at 462 (by decide +kernel) rfl, WALL_at 9 (by decide +kernel) rfl⟩
theorem cal_X3_init : Cal yX3_init cX3_init 5 none 4 := ⟨by decide +kernel, ⟨by decide +kernel, by decide +kernel, by decide +kernel⟩, WALL_at 467 (by decide +kernel) rfl, WALL_at 71 (by decide +kernel) rfl⟩
theorem in_X3_init : Cond.instanceMethod yX3_init ∈ WALL := WALL_at 466 (by decide +kernel) rfl
theorem st_L_addReel : Cond.static yL_addReel ∈ WALL := WALL_at 515 (by decide +kernel) rfl
theorem cal_X5_addReel : Cal yX5_addReel cX5_addReel 3 (some FieldType.int) 1 := ⟨by decide +kernel, ⟨by decide +kernel, by decide +kernel, by decide +kernel⟩, WALL_at 520 (by decide +kernel) rfl, WALL_at 51 (by decide +kernel) rfl⟩
theorem vi_X5_addReel : Cond.instanceMethod yX5_addReel ∈ WALL ∧ Cond.selects RX5 yX5_addReel yX5_addReel ∈ WALL := ⟨WALL_at 518 (by decide +kernel) rfl, WALL_at 519 (by decide +kernel) rfl⟩
theorem cal_X5_newReel : Cal yX5_newReel cX5_newReel 3 (some (FieldType.object "Spliceroom$Reel")) 1 := ⟨by decide +kernel, ⟨by decide +kernel, by decide +kernel, by decide +kernel⟩, WALL_at 525 (by decide +kernel) rfl, WALL_at 51 (by decide +kernel) rfl⟩
theorem vi_X5_newReel : Cond.instanceMethod yX5_newReel ∈ WALL ∧ Cond.selects RX5 yX5_newReel yX5_newReel ∈ WALL := ⟨WALL_at 524 (by decide +kernel) rfl, WALL_at 10 (by decide +kernel) rfl⟩
theorem cal_X2_init : Cal yX2_init cX2_init 3 none 2 := ⟨by decide +kernel, ⟨by decide +kernel, by decide +kernel, by decide +kernel⟩, WALL_at 529 (by decide +kernel) rfl, WALL_at 72 (by decide +kernel) rfl⟩
theorem in_X2_init : Cond.instanceMethod yX2_init ∈ WALL := WALL_at 528 (by decide +kernel) rfl
theorem st_L_put : Cond.static yL_put ∈ WALL := WALL_at 547 (by decide +kernel) rfl
theorem cal_X5_put : Cal yX5_put cX5_put 5 (some FieldType.int) 2 := ⟨by decide +kernel, ⟨by decide +kernel, by decide +kernel, by decide +kernel⟩, WALL_at 553 (by decide +kernel) rfl, WALL_at 51 (by decide +kernel) rfl⟩
theorem vi_X5_put : Cond.instanceMethod yX5_put ∈ WALL ∧ Cond.selects RX5 yX5_put yX5_put ∈ WALL := ⟨WALL_at 551 (by decide +kernel) rfl, WALL_at 552 (by decide +kernel) rfl⟩
theorem cal_X5_reelNumbered : Cal yX5_reelNumbered cX5_reelNumbered 2 (some (FieldType.object "Spliceroom$Reel")) 1 := ⟨by decide +kernel, ⟨by decide +kernel, by decide +kernel, by decide +kernel⟩, WALL_at 557 (by decide +kernel) rfl, WALL_at 51 (by decide +kernel) rfl⟩
theorem vi_X5_reelNumbered : Cond.instanceMethod yX5_reelNumbered ∈ WALL ∧ Cond.selects RX5 yX5_reelNumbered yX5_reelNumbered ∈ WALL := ⟨WALL_at 556 (by decide +kernel) rfl, WALL_at 11 (by decide +kernel) rfl⟩
theorem cal_X5_shotNumbered : Cal yX5_shotNumbered cX5_shotNumbered 2 (some (FieldType.object "Spliceroom$Shot")) 1 := ⟨by decide +kernel, ⟨by decide +kernel, by decide +kernel, by decide +kernel⟩, WALL_at 562 (by decide +kernel) rfl, WALL_at 51 (by decide +kernel) rfl⟩
theorem vi_X5_shotNumbered : Cond.instanceMethod yX5_shotNumbered ∈ WALL ∧ Cond.selects RX5 yX5_shotNumbered yX5_shotNumbered ∈ WALL := ⟨WALL_at 561 (by decide +kernel) rfl, WALL_at 12 (by decide +kernel) rfl⟩
theorem cal_X3_isMissing : Cal yX3_isMissing cX3_isMissing 1 (some FieldType.boolean) 0 := ⟨by decide +kernel, ⟨by decide +kernel, by decide +kernel, by decide +kernel⟩, WALL_at 568 (by decide +kernel) rfl, WALL_at 71 (by decide +kernel) rfl⟩
theorem vi_X3_isMissing : Cond.instanceMethod yX3_isMissing ∈ WALL ∧ Cond.selects RX3 yX3_isMissing yX3_isMissing ∈ WALL := ⟨WALL_at 566 (by decide +kernel) rfl, WALL_at 567 (by decide +kernel) rfl⟩
theorem cal_X5_isAheadOfEnd : Cal yX5_isAheadOfEnd cX5_isAheadOfEnd 4 (some FieldType.boolean) 2 := ⟨by decide +kernel, ⟨by decide +kernel, by decide +kernel, by decide +kernel⟩, WALL_at 572 (by decide +kernel) rfl, WALL_at 51 (by decide +kernel) rfl⟩
theorem vi_X5_isAheadOfEnd : Cond.instanceMethod yX5_isAheadOfEnd ∈ WALL ∧ Cond.selects RX5 yX5_isAheadOfEnd yX5_isAheadOfEnd ∈ WALL := ⟨WALL_at 571 (by decide +kernel) rfl, WALL_at 13 (by decide +kernel) rfl⟩
theorem cal_X0_placeOf : Cal yX0_placeOf cX0_placeOf 3 (some FieldType.int) 1 := ⟨by decide +kernel, ⟨by decide +kernel, by decide +kernel, by decide +kernel⟩, WALL_at 576 (by decide +kernel) rfl, WALL_at 60 (by decide +kernel) rfl⟩
theorem vi_X0_placeOf : Cond.instanceMethod yX0_placeOf ∈ WALL ∧ Cond.selects RX0 yX0_placeOf yX0_placeOf ∈ WALL := ⟨WALL_at 574 (by decide +kernel) rfl, WALL_at 575 (by decide +kernel) rfl⟩
theorem cal_X5_requireNotLent : Cal yX5_requireNotLent cX5_requireNotLent 2 none 1 := ⟨by decide +kernel, ⟨by decide +kernel, by decide +kernel, by decide +kernel⟩, WALL_at 598 (by decide +kernel) rfl, WALL_at 51 (by decide +kernel) rfl⟩
theorem vi_X5_requireNotLent : Cond.instanceMethod yX5_requireNotLent ∈ WALL ∧ Cond.selects RX5 yX5_requireNotLent yX5_requireNotLent ∈ WALL := ⟨WALL_at 597 (by decide +kernel) rfl, WALL_at 14 (by decide +kernel) rfl⟩
theorem cal_X2_append : Cal yX2_append cX2_append 2 none 1 := ⟨by decide +kernel, ⟨by decide +kernel, by decide +kernel, by decide +kernel⟩, WALL_at 603 (by decide +kernel) rfl, WALL_at 72 (by decide +kernel) rfl⟩
theorem vi_X2_append : Cond.instanceMethod yX2_append ∈ WALL ∧ Cond.selects RX2 yX2_append yX2_append ∈ WALL := ⟨WALL_at 601 (by decide +kernel) rfl, WALL_at 602 (by decide +kernel) rfl⟩
theorem st_L_found : Cond.static yL_found ∈ WALL := WALL_at 606 (by decide +kernel) rfl
theorem cal_X5_found : Cal yX5_found cX5_found 8 (some FieldType.int) 4 := ⟨by decide +kernel, ⟨by decide +kernel, by decide +kernel, by decide +kernel⟩, WALL_at 611 (by decide +kernel) rfl, WALL_at 51 (by decide +kernel) rfl⟩
theorem vi_X5_found : Cond.instanceMethod yX5_found ∈ WALL ∧ Cond.selects RX5 yX5_found yX5_found ∈ WALL := ⟨WALL_at 609 (by decide +kernel) rfl, WALL_at 610 (by decide +kernel) rfl⟩
theorem cal_Jx4a65c_add_7a177 : Cal yJx4a65c_add_7a177 cJx4a65c_add_7a177 5 none 2 := ⟨by decide +kernel, ⟨by decide +kernel, by decide +kernel, by decide +kernel⟩, WALL_at 617 (by decide +kernel) rfl, WALL_at 54 (by decide +kernel) rfl⟩
theorem vi_Jx4a65c_add_7a177 : Cond.instanceMethod yJx4a65c_add_7a177 ∈ WALL ∧ Cond.selects RJx4a65c yJx4a65c_add_7a177 yJx4a65c_add_7a177 ∈ WALL := ⟨WALL_at 615 (by decide +kernel) rfl, WALL_at 616 (by decide +kernel) rfl⟩
theorem cal_Jx4a65c_rangeCheckForAdd_d00df : Cal yJx4a65c_rangeCheckForAdd_d00df cJx4a65c_rangeCheckForAdd_d00df 2 none 1 := ⟨by decide +kernel, ⟨by decide +kernel, by decide +kernel, by decide +kernel⟩, WALL_at 621 (by decide +kernel) rfl, WALL_at 54 (by decide +kernel) rfl⟩
theorem vi_Jx4a65c_rangeCheckForAdd_d00df : Cond.instanceMethod yJx4a65c_rangeCheckForAdd_d00df ∈ WALL ∧ Cond.selects RJx4a65c yJx4a65c_rangeCheckForAdd_d00df yJx4a65c_rangeCheckForAdd_d00df ∈ WALL := ⟨WALL_at 620 (by decide +kernel) rfl, WALL_at 15 (by decide +kernel) rfl⟩
theorem cal_Jx4a65c_outOfBoundsMsg_b52d3 : Cal yJx4a65c_outOfBoundsMsg_b52d3 cJx4a65c_outOfBoundsMsg_b52d3 2 (some (FieldType.object "java/lang/String")) 1 := ⟨by decide +kernel, ⟨by decide +kernel, by decide +kernel, by decide +kernel⟩, WALL_at 626 (by decide +kernel) rfl, WALL_at 54 (by decide +kernel) rfl⟩
theorem vi_Jx4a65c_outOfBoundsMsg_b52d3 : Cond.instanceMethod yJx4a65c_outOfBoundsMsg_b52d3 ∈ WALL ∧ Cond.selects RJx4a65c yJx4a65c_outOfBoundsMsg_b52d3 yJx4a65c_outOfBoundsMsg_b52d3 ∈ WALL := ⟨WALL_at 625 (by decide +kernel) rfl, WALL_at 16 (by decide +kernel) rfl⟩
theorem cal_J7_copyOf_9075b : Cal yJ7_copyOf_9075b cJ7_copyOf_9075b 3 (some (FieldType.array FieldType.byte)) 2 := ⟨by decide +kernel, ⟨by decide +kernel, by decide +kernel, by decide +kernel⟩, WALL_at 682 (by decide +kernel) rfl, WALL_at 63 (by decide +kernel) rfl⟩
theorem st_J7_copyOf_9075b : Cond.static yJ7_copyOf_9075b ∈ WALL := WALL_at 681 (by decide +kernel) rfl
theorem cal_J3_checkFromToIndex_8c36e : Cal yJ3_checkFromToIndex_8c36e cJ3_checkFromToIndex_8c36e 4 (some FieldType.int) 4 := ⟨by decide +kernel, ⟨by decide +kernel, by decide +kernel, by decide +kernel⟩, WALL_at 711 (by decide +kernel) rfl, WALL_at 69 (by decide +kernel) rfl⟩
theorem st_J3_checkFromToIndex_8c36e : Cond.static yJ3_checkFromToIndex_8c36e ∈ WALL := WALL_at 710 (by decide +kernel) rfl
theorem cal_J3_checkFromIndexSize_8c36e : Cal yJ3_checkFromIndexSize_8c36e cJ3_checkFromIndexSize_8c36e 4 (some FieldType.int) 4 := ⟨by decide +kernel, ⟨by decide +kernel, by decide +kernel, by decide +kernel⟩, WALL_at 757 (by decide +kernel) rfl, WALL_at 69 (by decide +kernel) rfl⟩
theorem st_J3_checkFromIndexSize_8c36e : Cond.static yJ3_checkFromIndexSize_8c36e ∈ WALL := WALL_at 756 (by decide +kernel) rfl
theorem cal_J7_copyOfRange_39247 : Cal yJ7_copyOfRange_39247 cJ7_copyOfRange_39247 3 (some (FieldType.array FieldType.byte)) 3 := ⟨by decide +kernel, ⟨by decide +kernel, by decide +kernel, by decide +kernel⟩, WALL_at 818 (by decide +kernel) rfl, WALL_at 63 (by decide +kernel) rfl⟩
theorem st_J7_copyOfRange_39247 : Cond.static yJ7_copyOfRange_39247 ∈ WALL := WALL_at 817 (by decide +kernel) rfl
theorem cal_J7_copyOfRangeByte_39247 : Cal yJ7_copyOfRangeByte_39247 cJ7_copyOfRangeByte_39247 5 (some (FieldType.array FieldType.byte)) 3 := ⟨by decide +kernel, ⟨by decide +kernel, by decide +kernel, by decide +kernel⟩, WALL_at 821 (by decide +kernel) rfl, WALL_at 63 (by decide +kernel) rfl⟩
theorem st_J7_copyOfRangeByte_39247 : Cond.static yJ7_copyOfRangeByte_39247 ∈ WALL := WALL_at 820 (by decide +kernel) rfl
theorem cal_J7_checkLength_df160 : Cal yJ7_checkLength_df160 cJ7_checkLength_df160 2 none 2 := ⟨by decide +kernel, ⟨by decide +kernel, by decide +kernel, by decide +kernel⟩, WALL_at 824 (by decide +kernel) rfl, WALL_at 63 (by decide +kernel) rfl⟩
theorem st_J7_checkLength_df160 : Cond.static yJ7_checkLength_df160 ∈ WALL := WALL_at 823 (by decide +kernel) rfl
theorem st_L_join : Cond.static yL_join ∈ WALL := WALL_at 856 (by decide +kernel) rfl
theorem cal_X5_join : Cal yX5_join cX5_join 7 (some FieldType.int) 2 := ⟨by decide +kernel, ⟨by decide +kernel, by decide +kernel, by decide +kernel⟩, WALL_at 861 (by decide +kernel) rfl, WALL_at 51 (by decide +kernel) rfl⟩
theorem vi_X5_join : Cond.instanceMethod yX5_join ∈ WALL ∧ Cond.selects RX5 yX5_join yX5_join ∈ WALL := ⟨WALL_at 859 (by decide +kernel) rfl, WALL_at 860 (by decide +kernel) rfl⟩
theorem cal_X5_canBeJoined : Cal yX5_canBeJoined cX5_canBeJoined 3 (some FieldType.boolean) 2 := ⟨by decide +kernel, ⟨by decide +kernel, by decide +kernel, by decide +kernel⟩, WALL_at 866 (by decide +kernel) rfl, WALL_at 51 (by decide +kernel) rfl⟩
theorem vi_X5_canBeJoined : Cond.instanceMethod yX5_canBeJoined ∈ WALL ∧ Cond.selects RX5 yX5_canBeJoined yX5_canBeJoined ∈ WALL := ⟨WALL_at 865 (by decide +kernel) rfl, WALL_at 17 (by decide +kernel) rfl⟩
theorem cal_Jx4a65c_isEmpty_aae02 : Cal yJx4a65c_isEmpty_aae02 cJx4a65c_isEmpty_aae02 1 (some FieldType.boolean) 0 := ⟨by decide +kernel, ⟨by decide +kernel, by decide +kernel, by decide +kernel⟩, WALL_at 870 (by decide +kernel) rfl, WALL_at 54 (by decide +kernel) rfl⟩
theorem vi_Jx4a65c_isEmpty_aae02 : Cond.instanceMethod yJx4a65c_isEmpty_aae02 ∈ WALL ∧ Cond.selects RJx4a65c yJx4a65c_isEmpty_aae02 yJx4a65c_isEmpty_aae02 ∈ WALL := ⟨WALL_at 868 (by decide +kernel) rfl, WALL_at 869 (by decide +kernel) rfl⟩
theorem cal_Jx4a65c_clear_da8c8 : Cal yJx4a65c_clear_da8c8 cJx4a65c_clear_da8c8 4 none 0 := ⟨by decide +kernel, ⟨by decide +kernel, by decide +kernel, by decide +kernel⟩, WALL_at 875 (by decide +kernel) rfl, WALL_at 54 (by decide +kernel) rfl⟩
theorem vi_Jx4a65c_clear_da8c8 : Cond.instanceMethod yJx4a65c_clear_da8c8 ∈ WALL ∧ Cond.selects RJx4a65c yJx4a65c_clear_da8c8 yJx4a65c_clear_da8c8 ∈ WALL := ⟨WALL_at 873 (by decide +kernel) rfl, WALL_at 874 (by decide +kernel) rfl⟩
theorem st_L_shots : Cond.static yL_shots ∈ WALL := WALL_at 877 (by decide +kernel) rfl
theorem cal_X5_shots : Cal yX5_shots cX5_shots 2 (some FieldType.int) 1 := ⟨by decide +kernel, ⟨by decide +kernel, by decide +kernel, by decide +kernel⟩, WALL_at 882 (by decide +kernel) rfl, WALL_at 51 (by decide +kernel) rfl⟩
theorem vi_X5_shots : Cond.instanceMethod yX5_shots ∈ WALL ∧ Cond.selects RX5 yX5_shots yX5_shots ∈ WALL := ⟨WALL_at 880 (by decide +kernel) rfl, WALL_at 881 (by decide +kernel) rfl⟩
theorem st_L_shotOf : Cond.static yL_shotOf ∈ WALL := WALL_at 884 (by decide +kernel) rfl
theorem cal_X5_shotOf : Cal yX5_shotOf cX5_shotOf 4 (some FieldType.int) 2 := ⟨by decide +kernel, ⟨by decide +kernel, by decide +kernel, by decide +kernel⟩, WALL_at 889 (by decide +kernel) rfl, WALL_at 51 (by decide +kernel) rfl⟩
theorem vi_X5_shotOf : Cond.instanceMethod yX5_shotOf ∈ WALL ∧ Cond.selects RX5 yX5_shotOf yX5_shotOf ∈ WALL := ⟨WALL_at 887 (by decide +kernel) rfl, WALL_at 888 (by decide +kernel) rfl⟩
theorem st_L_lengthOf : Cond.static yL_lengthOf ∈ WALL := WALL_at 891 (by decide +kernel) rfl
theorem cal_X5_lengthOf : Cal yX5_lengthOf cX5_lengthOf 2 (some FieldType.int) 1 := ⟨by decide +kernel, ⟨by decide +kernel, by decide +kernel, by decide +kernel⟩, WALL_at 896 (by decide +kernel) rfl, WALL_at 51 (by decide +kernel) rfl⟩
theorem vi_X5_lengthOf : Cond.instanceMethod yX5_lengthOf ∈ WALL ∧ Cond.selects RX5 yX5_lengthOf yX5_lengthOf ∈ WALL := ⟨WALL_at 894 (by decide +kernel) rfl, WALL_at 895 (by decide +kernel) rfl⟩
theorem st_L_frameOf : Cond.static yL_frameOf ∈ WALL := WALL_at 898 (by decide +kernel) rfl
theorem cal_X5_frameOf : Cal yX5_frameOf cX5_frameOf 3 (some FieldType.int) 1 := ⟨by decide +kernel, ⟨by decide +kernel, by decide +kernel, by decide +kernel⟩, WALL_at 904 (by decide +kernel) rfl, WALL_at 51 (by decide +kernel) rfl⟩
theorem vi_X5_frameOf : Cond.instanceMethod yX5_frameOf ∈ WALL ∧ Cond.selects RX5 yX5_frameOf yX5_frameOf ∈ WALL := ⟨WALL_at 902 (by decide +kernel) rfl, WALL_at 903 (by decide +kernel) rfl⟩
theorem cal_X0_framesBefore : Cal yX0_framesBefore cX0_framesBefore 4 (some FieldType.int) 1 := ⟨by decide +kernel, ⟨by decide +kernel, by decide +kernel, by decide +kernel⟩, WALL_at 924 (by decide +kernel) rfl, WALL_at 60 (by decide +kernel) rfl⟩
theorem vi_X0_framesBefore : Cond.instanceMethod yX0_framesBefore ∈ WALL ∧ Cond.selects RX0 yX0_framesBefore yX0_framesBefore ∈ WALL := ⟨WALL_at 922 (by decide +kernel) rfl, WALL_at 923 (by decide +kernel) rfl⟩
theorem st_L_shotAt : Cond.static yL_shotAt ∈ WALL := WALL_at 928 (by decide +kernel) rfl
theorem cal_X5_shotAt : Cal yX5_shotAt cX5_shotAt 7 (some FieldType.int) 2 := ⟨by decide +kernel, ⟨by decide +kernel, by decide +kernel, by decide +kernel⟩, WALL_at 933 (by decide +kernel) rfl, WALL_at 51 (by decide +kernel) rfl⟩
theorem vi_X5_shotAt : Cond.instanceMethod yX5_shotAt ∈ WALL ∧ Cond.selects RX5 yX5_shotAt yX5_shotAt ∈ WALL := ⟨WALL_at 931 (by decide +kernel) rfl, WALL_at 932 (by decide +kernel) rfl⟩
theorem st_L_reelOf : Cond.static yL_reelOf ∈ WALL := WALL_at 937 (by decide +kernel) rfl
theorem cal_X5_reelOf : Cal yX5_reelOf cX5_reelOf 3 (some FieldType.int) 1 := ⟨by decide +kernel, ⟨by decide +kernel, by decide +kernel, by decide +kernel⟩, WALL_at 942 (by decide +kernel) rfl, WALL_at 51 (by decide +kernel) rfl⟩
theorem vi_X5_reelOf : Cond.instanceMethod yX5_reelOf ∈ WALL ∧ Cond.selects RX5 yX5_reelOf yX5_reelOf ∈ WALL := ⟨WALL_at 940 (by decide +kernel) rfl, WALL_at 941 (by decide +kernel) rfl⟩
theorem st_L_setLimit : Cond.static yL_setLimit ∈ WALL := WALL_at 944 (by decide +kernel) rfl
theorem cal_X5_setLimit : Cal yX5_setLimit cX5_setLimit 3 (some FieldType.int) 1 := ⟨by decide +kernel, ⟨by decide +kernel, by decide +kernel, by decide +kernel⟩, WALL_at 949 (by decide +kernel) rfl, WALL_at 51 (by decide +kernel) rfl⟩
theorem vi_X5_setLimit : Cond.instanceMethod yX5_setLimit ∈ WALL ∧ Cond.selects RX5 yX5_setLimit yX5_setLimit ∈ WALL := ⟨WALL_at 947 (by decide +kernel) rfl, WALL_at 948 (by decide +kernel) rfl⟩
theorem cal_X5_isAnyFilmLent : Cal yX5_isAnyFilmLent cX5_isAnyFilmLent 2 (some FieldType.boolean) 0 := ⟨by decide +kernel, ⟨by decide +kernel, by decide +kernel, by decide +kernel⟩, WALL_at 954 (by decide +kernel) rfl, WALL_at 51 (by decide +kernel) rfl⟩
theorem vi_X5_isAnyFilmLent : Cond.instanceMethod yX5_isAnyFilmLent ∈ WALL ∧ Cond.selects RX5 yX5_isAnyFilmLent yX5_isAnyFilmLent ∈ WALL := ⟨WALL_at 953 (by decide +kernel) rfl, WALL_at 18 (by decide +kernel) rfl⟩
theorem st_L_run : Cond.static yL_run ∈ WALL := WALL_at 957 (by decide +kernel) rfl
theorem cal_X5_run : Cal yX5_run cX5_run 3 (some FieldType.int) 1 := ⟨by decide +kernel, ⟨by decide +kernel, by decide +kernel, by decide +kernel⟩, WALL_at 962 (by decide +kernel) rfl, WALL_at 51 (by decide +kernel) rfl⟩
theorem vi_X5_run : Cond.instanceMethod yX5_run ∈ WALL ∧ Cond.selects RX5 yX5_run yX5_run ∈ WALL := ⟨WALL_at 960 (by decide +kernel) rfl, WALL_at 961 (by decide +kernel) rfl⟩
theorem cal_X5_play : Cal yX5_play cX5_play 3 none 2 := ⟨by decide +kernel, ⟨by decide +kernel, by decide +kernel, by decide +kernel⟩, WALL_at 967 (by decide +kernel) rfl, WALL_at 51 (by decide +kernel) rfl⟩
theorem vi_X5_play : Cond.instanceMethod yX5_play ∈ WALL ∧ Cond.selects RX5 yX5_play yX5_play ∈ WALL := ⟨WALL_at 966 (by decide +kernel) rfl, WALL_at 19 (by decide +kernel) rfl⟩
theorem cal_X2_addWear : Cal yX2_addWear cX2_addWear 3 none 1 := ⟨by decide +kernel, ⟨by decide +kernel, by decide +kernel, by decide +kernel⟩, WALL_at 971 (by decide +kernel) rfl, WALL_at 72 (by decide +kernel) rfl⟩
theorem vi_X2_addWear : Cond.instanceMethod yX2_addWear ∈ WALL ∧ Cond.selects RX2 yX2_addWear yX2_addWear ∈ WALL := ⟨WALL_at 969 (by decide +kernel) rfl, WALL_at 970 (by decide +kernel) rfl⟩
theorem cal_X2_frameCount : Cal yX2_frameCount cX2_frameCount 3 (some FieldType.int) 0 := ⟨by decide +kernel, ⟨by decide +kernel, by decide +kernel, by decide +kernel⟩, WALL_at 975 (by decide +kernel) rfl, WALL_at 72 (by decide +kernel) rfl⟩
theorem vi_X2_frameCount : Cond.instanceMethod yX2_frameCount ∈ WALL ∧ Cond.selects RX2 yX2_frameCount yX2_frameCount ∈ WALL := ⟨WALL_at 973 (by decide +kernel) rfl, WALL_at 974 (by decide +kernel) rfl⟩
theorem cal_X2_greatestWear : Cal yX2_greatestWear cX2_greatestWear 3 (some FieldType.int) 0 := ⟨by decide +kernel, ⟨by decide +kernel, by decide +kernel, by decide +kernel⟩, WALL_at 979 (by decide +kernel) rfl, WALL_at 72 (by decide +kernel) rfl⟩
theorem vi_X2_greatestWear : Cond.instanceMethod yX2_greatestWear ∈ WALL ∧ Cond.selects RX2 yX2_greatestWear yX2_greatestWear ∈ WALL := ⟨WALL_at 977 (by decide +kernel) rfl, WALL_at 978 (by decide +kernel) rfl⟩
theorem st_L_wear : Cond.static yL_wear ∈ WALL := WALL_at 982 (by decide +kernel) rfl
theorem cal_X5_wear : Cal yX5_wear cX5_wear 3 (some FieldType.int) 2 := ⟨by decide +kernel, ⟨by decide +kernel, by decide +kernel, by decide +kernel⟩, WALL_at 987 (by decide +kernel) rfl, WALL_at 51 (by decide +kernel) rfl⟩
theorem vi_X5_wear : Cond.instanceMethod yX5_wear ∈ WALL ∧ Cond.selects RX5 yX5_wear yX5_wear ∈ WALL := ⟨WALL_at 985 (by decide +kernel) rfl, WALL_at 986 (by decide +kernel) rfl⟩
theorem cal_X5_shotAheadOfSplice : Cal yX5_shotAheadOfSplice cX5_shotAheadOfSplice 3 (some (FieldType.object "Spliceroom$Shot")) 2 := ⟨by decide +kernel, ⟨by decide +kernel, by decide +kernel, by decide +kernel⟩, WALL_at 991 (by decide +kernel) rfl, WALL_at 51 (by decide +kernel) rfl⟩
theorem vi_X5_shotAheadOfSplice : Cond.instanceMethod yX5_shotAheadOfSplice ∈ WALL ∧ Cond.selects RX5 yX5_shotAheadOfSplice yX5_shotAheadOfSplice ∈ WALL := ⟨WALL_at 990 (by decide +kernel) rfl, WALL_at 20 (by decide +kernel) rfl⟩
theorem cal_X2_spliceCount : Cal yX2_spliceCount cX2_spliceCount 1 (some FieldType.int) 0 := ⟨by decide +kernel, ⟨by decide +kernel, by decide +kernel, by decide +kernel⟩, WALL_at 995 (by decide +kernel) rfl, WALL_at 72 (by decide +kernel) rfl⟩
theorem vi_X2_spliceCount : Cond.instanceMethod yX2_spliceCount ∈ WALL ∧ Cond.selects RX2 yX2_spliceCount yX2_spliceCount ∈ WALL := ⟨WALL_at 993 (by decide +kernel) rfl, WALL_at 994 (by decide +kernel) rfl⟩
theorem st_L_mend : Cond.static yL_mend ∈ WALL := WALL_at 998 (by decide +kernel) rfl
theorem cal_X5_mend : Cal yX5_mend cX5_mend 6 (some FieldType.int) 2 := ⟨by decide +kernel, ⟨by decide +kernel, by decide +kernel, by decide +kernel⟩, WALL_at 1003 (by decide +kernel) rfl, WALL_at 51 (by decide +kernel) rfl⟩
theorem vi_X5_mend : Cond.instanceMethod yX5_mend ∈ WALL ∧ Cond.selects RX5 yX5_mend yX5_mend ∈ WALL := ⟨WALL_at 1001 (by decide +kernel) rfl, WALL_at 1002 (by decide +kernel) rfl⟩
theorem cal_X5_takeLastFrame : Cal yX5_takeLastFrame cX5_takeLastFrame 4 none 1 := ⟨by decide +kernel, ⟨by decide +kernel, by decide +kernel, by decide +kernel⟩, WALL_at 1008 (by decide +kernel) rfl, WALL_at 51 (by decide +kernel) rfl⟩
theorem vi_X5_takeLastFrame : Cond.instanceMethod yX5_takeLastFrame ∈ WALL ∧ Cond.selects RX5 yX5_takeLastFrame yX5_takeLastFrame ∈ WALL := ⟨WALL_at 1007 (by decide +kernel) rfl, WALL_at 21 (by decide +kernel) rfl⟩
theorem cal_X4_mark : Cal yX4_mark cX4_mark 12 (some FieldType.int) 4 := ⟨by decide +kernel, ⟨by decide +kernel, by decide +kernel, by decide +kernel⟩, WALL_at 1012 (by decide +kernel) rfl, WALL_at 81 (by decide +kernel) rfl⟩
theorem vi_X4_mark : Cond.instanceMethod yX4_mark ∈ WALL ∧ Cond.selects RX4 yX4_mark yX4_mark ∈ WALL := ⟨WALL_at 1010 (by decide +kernel) rfl, WALL_at 1011 (by decide +kernel) rfl⟩
theorem cal_X4_bitsBetween : Cal yX4_bitsBetween cX4_bitsBetween 4 (some FieldType.long) 2 := ⟨by decide +kernel, ⟨by decide +kernel, by decide +kernel, by decide +kernel⟩, WALL_at 1015 (by decide +kernel) rfl, WALL_at 81 (by decide +kernel) rfl⟩
theorem st_X4_bitsBetween : Cond.static yX4_bitsBetween ∈ WALL := WALL_at 1014 (by decide +kernel) rfl
theorem st_L_scan : Cond.static yL_scan ∈ WALL := WALL_at 1021 (by decide +kernel) rfl
theorem cal_X5_scan : Cal yX5_scan cX5_scan 7 (some FieldType.int) 2 := ⟨by decide +kernel, ⟨by decide +kernel, by decide +kernel, by decide +kernel⟩, WALL_at 1026 (by decide +kernel) rfl, WALL_at 51 (by decide +kernel) rfl⟩
theorem vi_X5_scan : Cond.instanceMethod yX5_scan ∈ WALL ∧ Cond.selects RX5 yX5_scan yX5_scan ∈ WALL := ⟨WALL_at 1024 (by decide +kernel) rfl, WALL_at 1025 (by decide +kernel) rfl⟩
theorem cal_X5_framesLostAt : Cal yX5_framesLostAt cX5_framesLostAt 4 (some FieldType.int) 2 := ⟨by decide +kernel, ⟨by decide +kernel, by decide +kernel, by decide +kernel⟩, WALL_at 1032 (by decide +kernel) rfl, WALL_at 51 (by decide +kernel) rfl⟩
theorem vi_X5_framesLostAt : Cond.instanceMethod yX5_framesLostAt ∈ WALL ∧ Cond.selects RX5 yX5_framesLostAt yX5_framesLostAt ∈ WALL := ⟨WALL_at 1031 (by decide +kernel) rfl, WALL_at 22 (by decide +kernel) rfl⟩
theorem cal_X5_isWorn : Cal yX5_isWorn cX5_isWorn 3 (some FieldType.boolean) 2 := ⟨by decide +kernel, ⟨by decide +kernel, by decide +kernel, by decide +kernel⟩, WALL_at 1036 (by decide +kernel) rfl, WALL_at 51 (by decide +kernel) rfl⟩
theorem vi_X5_isWorn : Cond.instanceMethod yX5_isWorn ∈ WALL ∧ Cond.selects RX5 yX5_isWorn yX5_isWorn ∈ WALL := ⟨WALL_at 1035 (by decide +kernel) rfl, WALL_at 23 (by decide +kernel) rfl⟩
theorem cal_X3_takeScan : Cal yX3_takeScan cX3_takeScan 3 none 2 := ⟨by decide +kernel, ⟨by decide +kernel, by decide +kernel, by decide +kernel⟩, WALL_at 1040 (by decide +kernel) rfl, WALL_at 71 (by decide +kernel) rfl⟩
theorem vi_X3_takeScan : Cond.instanceMethod yX3_takeScan ∈ WALL ∧ Cond.selects RX3 yX3_takeScan yX3_takeScan ∈ WALL := ⟨WALL_at 1038 (by decide +kernel) rfl, WALL_at 1039 (by decide +kernel) rfl⟩
theorem st_L_scanned : Cond.static yL_scanned ∈ WALL := WALL_at 1042 (by decide +kernel) rfl
theorem cal_X5_scanned : Cal yX5_scanned cX5_scanned 2 (some FieldType.int) 1 := ⟨by decide +kernel, ⟨by decide +kernel, by decide +kernel, by decide +kernel⟩, WALL_at 1047 (by decide +kernel) rfl, WALL_at 51 (by decide +kernel) rfl⟩
theorem vi_X5_scanned : Cond.instanceMethod yX5_scanned ∈ WALL ∧ Cond.selects RX5 yX5_scanned yX5_scanned ∈ WALL := ⟨WALL_at 1045 (by decide +kernel) rfl, WALL_at 1046 (by decide +kernel) rfl⟩
theorem st_L_missed : Cond.static yL_missed ∈ WALL := WALL_at 1049 (by decide +kernel) rfl
theorem cal_X5_missed : Cal yX5_missed cX5_missed 2 (some FieldType.int) 1 := ⟨by decide +kernel, ⟨by decide +kernel, by decide +kernel, by decide +kernel⟩, WALL_at 1054 (by decide +kernel) rfl, WALL_at 51 (by decide +kernel) rfl⟩
theorem vi_X5_missed : Cond.instanceMethod yX5_missed ∈ WALL ∧ Cond.selects RX5 yX5_missed yX5_missed ∈ WALL := ⟨WALL_at 1052 (by decide +kernel) rfl, WALL_at 1053 (by decide +kernel) rfl⟩
theorem st_L_grade : Cond.static yL_grade ∈ WALL := WALL_at 1056 (by decide +kernel) rfl
theorem cal_X5_grade : Cal yX5_grade cX5_grade 5 (some FieldType.int) 2 := ⟨by decide +kernel, ⟨by decide +kernel, by decide +kernel, by decide +kernel⟩, WALL_at 1061 (by decide +kernel) rfl, WALL_at 51 (by decide +kernel) rfl⟩
theorem vi_X5_grade : Cond.instanceMethod yX5_grade ∈ WALL ∧ Cond.selects RX5 yX5_grade yX5_grade ∈ WALL := ⟨WALL_at 1059 (by decide +kernel) rfl, WALL_at 1060 (by decide +kernel) rfl⟩
theorem cal_X0_dropGradesFrom : Cal yX0_dropGradesFrom cX0_dropGradesFrom 4 none 1 := ⟨by decide +kernel, ⟨by decide +kernel, by decide +kernel, by decide +kernel⟩, WALL_at 1068 (by decide +kernel) rfl, WALL_at 60 (by decide +kernel) rfl⟩
theorem vi_X0_dropGradesFrom : Cond.instanceMethod yX0_dropGradesFrom ∈ WALL ∧ Cond.selects RX0 yX0_dropGradesFrom yX0_dropGradesFrom ∈ WALL := ⟨WALL_at 1066 (by decide +kernel) rfl, WALL_at 1067 (by decide +kernel) rfl⟩
theorem st_L_passOn : Cond.static yL_passOn ∈ WALL := WALL_at 1070 (by decide +kernel) rfl
theorem cal_X5_passOn : Cal yX5_passOn cX5_passOn 7 (some FieldType.int) 1 := ⟨by decide +kernel, ⟨by decide +kernel, by decide +kernel, by decide +kernel⟩, WALL_at 1075 (by decide +kernel) rfl, WALL_at 51 (by decide +kernel) rfl⟩
theorem vi_X5_passOn : Cond.instanceMethod yX5_passOn ∈ WALL ∧ Cond.selects RX5 yX5_passOn yX5_passOn ∈ WALL := ⟨WALL_at 1073 (by decide +kernel) rfl, WALL_at 1074 (by decide +kernel) rfl⟩
theorem st_L_gradeOf : Cond.static yL_gradeOf ∈ WALL := WALL_at 1077 (by decide +kernel) rfl
theorem cal_X5_gradeOf : Cal yX5_gradeOf cX5_gradeOf 2 (some FieldType.int) 1 := ⟨by decide +kernel, ⟨by decide +kernel, by decide +kernel, by decide +kernel⟩, WALL_at 1082 (by decide +kernel) rfl, WALL_at 51 (by decide +kernel) rfl⟩
theorem vi_X5_gradeOf : Cond.instanceMethod yX5_gradeOf ∈ WALL ∧ Cond.selects RX5 yX5_gradeOf yX5_gradeOf ∈ WALL := ⟨WALL_at 1080 (by decide +kernel) rfl, WALL_at 1081 (by decide +kernel) rfl⟩
theorem st_L_gradeFrom : Cond.static yL_gradeFrom ∈ WALL := WALL_at 1084 (by decide +kernel) rfl
theorem cal_X5_gradeFrom : Cal yX5_gradeFrom cX5_gradeFrom 4 (some FieldType.int) 1 := ⟨by decide +kernel, ⟨by decide +kernel, by decide +kernel, by decide +kernel⟩, WALL_at 1089 (by decide +kernel) rfl, WALL_at 51 (by decide +kernel) rfl⟩
theorem vi_X5_gradeFrom : Cond.instanceMethod yX5_gradeFrom ∈ WALL ∧ Cond.selects RX5 yX5_gradeFrom yX5_gradeFrom ∈ WALL := ⟨WALL_at 1087 (by decide +kernel) rfl, WALL_at 1088 (by decide +kernel) rfl⟩
theorem st_L_addVersion : Cond.static yL_addVersion ∈ WALL := WALL_at 1091 (by decide +kernel) rfl
theorem cal_X5_addVersion : Cal yX5_addVersion cX5_addVersion 4 (some FieldType.int) 2 := ⟨by decide +kernel, ⟨by decide +kernel, by decide +kernel, by decide +kernel⟩, WALL_at 1096 (by decide +kernel) rfl, WALL_at 51 (by decide +kernel) rfl⟩
theorem vi_X5_addVersion : Cond.instanceMethod yX5_addVersion ∈ WALL ∧ Cond.selects RX5 yX5_addVersion yX5_addVersion ∈ WALL := ⟨WALL_at 1094 (by decide +kernel) rfl, WALL_at 1095 (by decide +kernel) rfl⟩
theorem cal_X5_hasVersion : Cal yX5_hasVersion cX5_hasVersion 5 (some FieldType.boolean) 2 := ⟨by decide +kernel, ⟨by decide +kernel, by decide +kernel, by decide +kernel⟩, WALL_at 1101 (by decide +kernel) rfl, WALL_at 51 (by decide +kernel) rfl⟩
theorem vi_X5_hasVersion : Cond.instanceMethod yX5_hasVersion ∈ WALL ∧ Cond.selects RX5 yX5_hasVersion yX5_hasVersion ∈ WALL := ⟨WALL_at 1100 (by decide +kernel) rfl, WALL_at 24 (by decide +kernel) rfl⟩
theorem cal_X4_init : Cal yX4_init cX4_init 3 none 2 := ⟨by decide +kernel, ⟨by decide +kernel, by decide +kernel, by decide +kernel⟩, WALL_at 1107 (by decide +kernel) rfl, WALL_at 81 (by decide +kernel) rfl⟩
theorem in_X4_init : Cond.instanceMethod yX4_init ∈ WALL := WALL_at 1106 (by decide +kernel) rfl
theorem st_L_leaveOut : Cond.static yL_leaveOut ∈ WALL := WALL_at 1123 (by decide +kernel) rfl
theorem cal_X5_leaveOut : Cal yX5_leaveOut cX5_leaveOut 12 (some FieldType.int) 4 := ⟨by decide +kernel, ⟨by decide +kernel, by decide +kernel, by decide +kernel⟩, WALL_at 1128 (by decide +kernel) rfl, WALL_at 51 (by decide +kernel) rfl⟩
theorem vi_X5_leaveOut : Cond.instanceMethod yX5_leaveOut ∈ WALL ∧ Cond.selects RX5 yX5_leaveOut yX5_leaveOut ∈ WALL := ⟨WALL_at 1126 (by decide +kernel) rfl, WALL_at 1127 (by decide +kernel) rfl⟩
theorem cal_X5_versionNumbered : Cal yX5_versionNumbered cX5_versionNumbered 2 (some (FieldType.object "Spliceroom$Version")) 1 := ⟨by decide +kernel, ⟨by decide +kernel, by decide +kernel, by decide +kernel⟩, WALL_at 1132 (by decide +kernel) rfl, WALL_at 51 (by decide +kernel) rfl⟩
theorem vi_X5_versionNumbered : Cond.instanceMethod yX5_versionNumbered ∈ WALL ∧ Cond.selects RX5 yX5_versionNumbered yX5_versionNumbered ∈ WALL := ⟨WALL_at 1131 (by decide +kernel) rfl, WALL_at 25 (by decide +kernel) rfl⟩
theorem cal_X0_frameCount : Cal yX0_frameCount cX0_frameCount 1 (some FieldType.int) 0 := ⟨by decide +kernel, ⟨by decide +kernel, by decide +kernel, by decide +kernel⟩, WALL_at 1137 (by decide +kernel) rfl, WALL_at 60 (by decide +kernel) rfl⟩
theorem vi_X0_frameCount : Cond.instanceMethod yX0_frameCount ∈ WALL ∧ Cond.selects RX0 yX0_frameCount yX0_frameCount ∈ WALL := ⟨WALL_at 1135 (by decide +kernel) rfl, WALL_at 1136 (by decide +kernel) rfl⟩
theorem st_L_frames : Cond.static yL_frames ∈ WALL := WALL_at 1142 (by decide +kernel) rfl
theorem cal_X5_frames : Cal yX5_frames cX5_frames 2 (some FieldType.int) 1 := ⟨by decide +kernel, ⟨by decide +kernel, by decide +kernel, by decide +kernel⟩, WALL_at 1147 (by decide +kernel) rfl, WALL_at 51 (by decide +kernel) rfl⟩
theorem vi_X5_frames : Cond.instanceMethod yX5_frames ∈ WALL ∧ Cond.selects RX5 yX5_frames yX5_frames ∈ WALL := ⟨WALL_at 1145 (by decide +kernel) rfl, WALL_at 1146 (by decide +kernel) rfl⟩
theorem st_L_lend : Cond.static yL_lend ∈ WALL := WALL_at 1149 (by decide +kernel) rfl
theorem cal_X5_lend : Cal yX5_lend cX5_lend 6 (some FieldType.int) 4 := ⟨by decide +kernel, ⟨by decide +kernel, by decide +kernel, by decide +kernel⟩, WALL_at 1154 (by decide +kernel) rfl, WALL_at 51 (by decide +kernel) rfl⟩
theorem vi_X5_lend : Cond.instanceMethod yX5_lend ∈ WALL ∧ Cond.selects RX5 yX5_lend yX5_lend ∈ WALL := ⟨WALL_at 1152 (by decide +kernel) rfl, WALL_at 1153 (by decide +kernel) rfl⟩
theorem cal_X5_canFilmTake : Cal yX5_canFilmTake cX5_canFilmTake 5 (some FieldType.boolean) 2 := ⟨by decide +kernel, ⟨by decide +kernel, by decide +kernel, by decide +kernel⟩, WALL_at 1158 (by decide +kernel) rfl, WALL_at 51 (by decide +kernel) rfl⟩
theorem vi_X5_canFilmTake : Cond.instanceMethod yX5_canFilmTake ∈ WALL ∧ Cond.selects RX5 yX5_canFilmTake yX5_canFilmTake ∈ WALL := ⟨WALL_at 1157 (by decide +kernel) rfl, WALL_at 26 (by decide +kernel) rfl⟩
theorem cal_X1_init : Cal yX1_init cX1_init 5 none 4 := ⟨by decide +kernel, ⟨by decide +kernel, by decide +kernel, by decide +kernel⟩, WALL_at 1164 (by decide +kernel) rfl, WALL_at 83 (by decide +kernel) rfl⟩
theorem in_X1_init : Cond.instanceMethod yX1_init ∈ WALL := WALL_at 1163 (by decide +kernel) rfl
theorem st_L_show : Cond.static yL_show ∈ WALL := WALL_at 1187 (by decide +kernel) rfl
theorem cal_X5_show : Cal yX5_show cX5_show 5 (some FieldType.int) 1 := ⟨by decide +kernel, ⟨by decide +kernel, by decide +kernel, by decide +kernel⟩, WALL_at 1192 (by decide +kernel) rfl, WALL_at 51 (by decide +kernel) rfl⟩
theorem vi_X5_show : Cond.instanceMethod yX5_show ∈ WALL ∧ Cond.selects RX5 yX5_show yX5_show ∈ WALL := ⟨WALL_at 1190 (by decide +kernel) rfl, WALL_at 1191 (by decide +kernel) rfl⟩
theorem cal_X5_loanNumbered : Cal yX5_loanNumbered cX5_loanNumbered 2 (some (FieldType.object "Spliceroom$Loan")) 1 := ⟨by decide +kernel, ⟨by decide +kernel, by decide +kernel, by decide +kernel⟩, WALL_at 1196 (by decide +kernel) rfl, WALL_at 51 (by decide +kernel) rfl⟩
theorem vi_X5_loanNumbered : Cond.instanceMethod yX5_loanNumbered ∈ WALL ∧ Cond.selects RX5 yX5_loanNumbered yX5_loanNumbered ∈ WALL := ⟨WALL_at 1195 (by decide +kernel) rfl, WALL_at 27 (by decide +kernel) rfl⟩
theorem st_L_giveBack : Cond.static yL_giveBack ∈ WALL := WALL_at 1200 (by decide +kernel) rfl
theorem cal_X5_giveBack : Cal yX5_giveBack cX5_giveBack 3 (some FieldType.int) 1 := ⟨by decide +kernel, ⟨by decide +kernel, by decide +kernel, by decide +kernel⟩, WALL_at 1205 (by decide +kernel) rfl, WALL_at 51 (by decide +kernel) rfl⟩
theorem vi_X5_giveBack : Cond.instanceMethod yX5_giveBack ∈ WALL ∧ Cond.selects RX5 yX5_giveBack yX5_giveBack ∈ WALL := ⟨WALL_at 1203 (by decide +kernel) rfl, WALL_at 1204 (by decide +kernel) rfl⟩
theorem st_L_advance : Cond.static yL_advance ∈ WALL := WALL_at 1208 (by decide +kernel) rfl
theorem cal_X5_advance : Cal yX5_advance cX5_advance 5 (some FieldType.int) 1 := ⟨by decide +kernel, ⟨by decide +kernel, by decide +kernel, by decide +kernel⟩, WALL_at 1213 (by decide +kernel) rfl, WALL_at 51 (by decide +kernel) rfl⟩
theorem vi_X5_advance : Cond.instanceMethod yX5_advance ∈ WALL ∧ Cond.selects RX5 yX5_advance yX5_advance ∈ WALL := ⟨WALL_at 1211 (by decide +kernel) rfl, WALL_at 1212 (by decide +kernel) rfl⟩
theorem st_L_keptShare : Cond.static yL_keptShare ∈ WALL := WALL_at 1216 (by decide +kernel) rfl
theorem cal_X5_keptShare : Cal yX5_keptShare cX5_keptShare 4 (some FieldType.float) 0 := ⟨by decide +kernel, ⟨by decide +kernel, by decide +kernel, by decide +kernel⟩, WALL_at 1235 (by decide +kernel) rfl, WALL_at 51 (by decide +kernel) rfl⟩
theorem vi_X5_keptShare : Cond.instanceMethod yX5_keptShare ∈ WALL ∧ Cond.selects RX5 yX5_keptShare yX5_keptShare ∈ WALL := ⟨WALL_at 1233 (by decide +kernel) rfl, WALL_at 1234 (by decide +kernel) rfl⟩
theorem st_L_meanWear : Cond.static yL_meanWear ∈ WALL := WALL_at 1240 (by decide +kernel) rfl
theorem cal_X5_meanWear : Cal yX5_meanWear cX5_meanWear 5 (some FieldType.double) 0 := ⟨by decide +kernel, ⟨by decide +kernel, by decide +kernel, by decide +kernel⟩, WALL_at 1245 (by decide +kernel) rfl, WALL_at 51 (by decide +kernel) rfl⟩
theorem vi_X5_meanWear : Cond.instanceMethod yX5_meanWear ∈ WALL ∧ Cond.selects RX5 yX5_meanWear yX5_meanWear ∈ WALL := ⟨WALL_at 1243 (by decide +kernel) rfl, WALL_at 1244 (by decide +kernel) rfl⟩
theorem cal_X2_wearSum : Cal yX2_wearSum cX2_wearSum 3 (some FieldType.int) 0 := ⟨by decide +kernel, ⟨by decide +kernel, by decide +kernel, by decide +kernel⟩, WALL_at 1249 (by decide +kernel) rfl, WALL_at 72 (by decide +kernel) rfl⟩
theorem vi_X2_wearSum : Cond.instanceMethod yX2_wearSum ∈ WALL ∧ Cond.selects RX2 yX2_wearSum yX2_wearSum ∈ WALL := ⟨WALL_at 1247 (by decide +kernel) rfl, WALL_at 1248 (by decide +kernel) rfl⟩
theorem cal_X6_init : Cal yX6_init cX6_init 1 none 0 := ⟨by decide +kernel, ⟨by decide +kernel, by decide +kernel, by decide +kernel⟩, WALL_at 1255 (by decide +kernel) rfl, WALL_at 55 (by decide +kernel) rfl⟩
theorem in_X6_init : Cond.instanceMethod yX6_init ∈ WALL := WALL_at 1254 (by decide +kernel) rfl
theorem cal_X6_thrown : Cal yX6_thrown cX6_thrown 1 (some FieldType.int) 0 := ⟨by decide +kernel, ⟨by decide +kernel, by decide +kernel, by decide +kernel⟩, WALL_at 1356 (by decide +kernel) rfl, WALL_at 55 (by decide +kernel) rfl⟩
theorem vi_X6_thrown : Cond.instanceMethod yX6_thrown ∈ WALL ∧ Cond.selects RX6 yX6_thrown yX6_thrown ∈ WALL := ⟨WALL_at 1354 (by decide +kernel) rfl, WALL_at 1355 (by decide +kernel) rfl⟩
theorem cal_X6_addFilm : Cal yX6_addFilm cX6_addFilm 1 (some FieldType.int) 0 := ⟨by decide +kernel, ⟨by decide +kernel, by decide +kernel, by decide +kernel⟩, WALL_at 1360 (by decide +kernel) rfl, WALL_at 55 (by decide +kernel) rfl⟩
theorem vi_X6_addFilm : Cond.instanceMethod yX6_addFilm ∈ WALL ∧ Cond.selects RX6 yX6_addFilm yX6_addFilm ∈ WALL := ⟨WALL_at 1358 (by decide +kernel) rfl, WALL_at 1359 (by decide +kernel) rfl⟩
theorem cal_X6_goesOn : Cal yX6_goesOn cX6_goesOn 2 (some FieldType.boolean) 1 := ⟨by decide +kernel, ⟨by decide +kernel, by decide +kernel, by decide +kernel⟩, WALL_at 1364 (by decide +kernel) rfl, WALL_at 55 (by decide +kernel) rfl⟩
theorem vi_X6_goesOn : Cond.instanceMethod yX6_goesOn ∈ WALL ∧ Cond.selects RX6 yX6_goesOn yX6_goesOn ∈ WALL := ⟨WALL_at 1363 (by decide +kernel) rfl, WALL_at 28 (by decide +kernel) rfl⟩
theorem cal_X6_addShot : Cal yX6_addShot cX6_addShot 5 (some FieldType.int) 3 := ⟨by decide +kernel, ⟨by decide +kernel, by decide +kernel, by decide +kernel⟩, WALL_at 1368 (by decide +kernel) rfl, WALL_at 55 (by decide +kernel) rfl⟩
theorem vi_X6_addShot : Cond.instanceMethod yX6_addShot ∈ WALL ∧ Cond.selects RX6 yX6_addShot yX6_addShot ∈ WALL := ⟨WALL_at 1366 (by decide +kernel) rfl, WALL_at 1367 (by decide +kernel) rfl⟩
theorem cal_X6_isFilm : Cal yX6_isFilm cX6_isFilm 2 (some FieldType.boolean) 1 := ⟨by decide +kernel, ⟨by decide +kernel, by decide +kernel, by decide +kernel⟩, WALL_at 1372 (by decide +kernel) rfl, WALL_at 55 (by decide +kernel) rfl⟩
theorem vi_X6_isFilm : Cond.instanceMethod yX6_isFilm ∈ WALL ∧ Cond.selects RX6 yX6_isFilm yX6_isFilm ∈ WALL := ⟨WALL_at 1371 (by decide +kernel) rfl, WALL_at 29 (by decide +kernel) rfl⟩
theorem cal_X6_in : Cal yX6_in cX6_in 3 (some FieldType.boolean) 3 := ⟨by decide +kernel, ⟨by decide +kernel, by decide +kernel, by decide +kernel⟩, WALL_at 1375 (by decide +kernel) rfl, WALL_at 55 (by decide +kernel) rfl⟩
theorem st_X6_in : Cond.static yX6_in ∈ WALL := WALL_at 1374 (by decide +kernel) rfl
theorem cal_X6_areFine : Cal yX6_areFine cX6_areFine 2 (some FieldType.boolean) 2 := ⟨by decide +kernel, ⟨by decide +kernel, by decide +kernel, by decide +kernel⟩, WALL_at 1378 (by decide +kernel) rfl, WALL_at 55 (by decide +kernel) rfl⟩
theorem st_X6_areFine : Cond.static yX6_areFine ∈ WALL := WALL_at 1377 (by decide +kernel) rfl
theorem cal_X6_makes : Cal yX6_makes cX6_makes 6 (some FieldType.int) 4 := ⟨by decide +kernel, ⟨by decide +kernel, by decide +kernel, by decide +kernel⟩, WALL_at 1382 (by decide +kernel) rfl, WALL_at 55 (by decide +kernel) rfl⟩
theorem vi_X6_makes : Cond.instanceMethod yX6_makes ∈ WALL ∧ Cond.selects RX6 yX6_makes yX6_makes ∈ WALL := ⟨WALL_at 1381 (by decide +kernel) rfl, WALL_at 30 (by decide +kernel) rfl⟩
theorem cal_X6_addReel : Cal yX6_addReel cX6_addReel 2 (some FieldType.int) 1 := ⟨by decide +kernel, ⟨by decide +kernel, by decide +kernel, by decide +kernel⟩, WALL_at 1386 (by decide +kernel) rfl, WALL_at 55 (by decide +kernel) rfl⟩
theorem vi_X6_addReel : Cond.instanceMethod yX6_addReel ∈ WALL ∧ Cond.selects RX6 yX6_addReel yX6_addReel ∈ WALL := ⟨WALL_at 1384 (by decide +kernel) rfl, WALL_at 1385 (by decide +kernel) rfl⟩
theorem cal_X6_put : Cal yX6_put cX6_put 6 (some FieldType.int) 2 := ⟨by decide +kernel, ⟨by decide +kernel, by decide +kernel, by decide +kernel⟩, WALL_at 1390 (by decide +kernel) rfl, WALL_at 55 (by decide +kernel) rfl⟩
theorem vi_X6_put : Cond.instanceMethod yX6_put ∈ WALL ∧ Cond.selects RX6 yX6_put yX6_put ∈ WALL := ⟨WALL_at 1388 (by decide +kernel) rfl, WALL_at 1389 (by decide +kernel) rfl⟩
theorem cal_X6_isReel : Cal yX6_isReel cX6_isReel 2 (some FieldType.boolean) 1 := ⟨by decide +kernel, ⟨by decide +kernel, by decide +kernel, by decide +kernel⟩, WALL_at 1394 (by decide +kernel) rfl, WALL_at 55 (by decide +kernel) rfl⟩
theorem vi_X6_isReel : Cond.instanceMethod yX6_isReel ∈ WALL ∧ Cond.selects RX6 yX6_isReel yX6_isReel ∈ WALL := ⟨WALL_at 1393 (by decide +kernel) rfl, WALL_at 31 (by decide +kernel) rfl⟩
theorem cal_X6_isShot : Cal yX6_isShot cX6_isShot 2 (some FieldType.boolean) 1 := ⟨by decide +kernel, ⟨by decide +kernel, by decide +kernel, by decide +kernel⟩, WALL_at 1398 (by decide +kernel) rfl, WALL_at 55 (by decide +kernel) rfl⟩
theorem vi_X6_isShot : Cond.instanceMethod yX6_isShot ∈ WALL ∧ Cond.selects RX6 yX6_isShot yX6_isShot ∈ WALL := ⟨WALL_at 1397 (by decide +kernel) rfl, WALL_at 32 (by decide +kernel) rfl⟩
theorem cal_X6_placeOf : Cal yX6_placeOf cX6_placeOf 3 (some FieldType.int) 1 := ⟨by decide +kernel, ⟨by decide +kernel, by decide +kernel, by decide +kernel⟩, WALL_at 1402 (by decide +kernel) rfl, WALL_at 55 (by decide +kernel) rfl⟩
theorem vi_X6_placeOf : Cond.instanceMethod yX6_placeOf ∈ WALL ∧ Cond.selects RX6 yX6_placeOf yX6_placeOf ∈ WALL := ⟨WALL_at 1401 (by decide +kernel) rfl, WALL_at 33 (by decide +kernel) rfl⟩
theorem cal_X6_lastOf : Cal yX6_lastOf cX6_lastOf 2 (some FieldType.int) 1 := ⟨by decide +kernel, ⟨by decide +kernel, by decide +kernel, by decide +kernel⟩, WALL_at 1406 (by decide +kernel) rfl, WALL_at 55 (by decide +kernel) rfl⟩
theorem vi_X6_lastOf : Cond.instanceMethod yX6_lastOf ∈ WALL ∧ Cond.selects RX6 yX6_lastOf yX6_lastOf ∈ WALL := ⟨WALL_at 1405 (by decide +kernel) rfl, WALL_at 34 (by decide +kernel) rfl⟩
theorem cal_X6_isLent : Cal yX6_isLent cX6_isLent 4 (some FieldType.boolean) 1 := ⟨by decide +kernel, ⟨by decide +kernel, by decide +kernel, by decide +kernel⟩, WALL_at 1410 (by decide +kernel) rfl, WALL_at 55 (by decide +kernel) rfl⟩
theorem vi_X6_isLent : Cond.instanceMethod yX6_isLent ∈ WALL ∧ Cond.selects RX6 yX6_isLent yX6_isLent ∈ WALL := ⟨WALL_at 1409 (by decide +kernel) rfl, WALL_at 35 (by decide +kernel) rfl⟩
theorem cal_X6_adds : Cal yX6_adds cX6_adds 4 none 3 := ⟨by decide +kernel, ⟨by decide +kernel, by decide +kernel, by decide +kernel⟩, WALL_at 1414 (by decide +kernel) rfl, WALL_at 55 (by decide +kernel) rfl⟩
theorem vi_X6_adds : Cond.instanceMethod yX6_adds ∈ WALL ∧ Cond.selects RX6 yX6_adds yX6_adds ∈ WALL := ⟨WALL_at 1413 (by decide +kernel) rfl, WALL_at 36 (by decide +kernel) rfl⟩
theorem cal_X6_found : Cal yX6_found cX6_found 8 (some FieldType.int) 4 := ⟨by decide +kernel, ⟨by decide +kernel, by decide +kernel, by decide +kernel⟩, WALL_at 1418 (by decide +kernel) rfl, WALL_at 55 (by decide +kernel) rfl⟩
theorem vi_X6_found : Cond.instanceMethod yX6_found ∈ WALL ∧ Cond.selects RX6 yX6_found yX6_found ∈ WALL := ⟨WALL_at 1416 (by decide +kernel) rfl, WALL_at 1417 (by decide +kernel) rfl⟩
theorem cal_X6_join : Cal yX6_join cX6_join 9 (some FieldType.int) 2 := ⟨by decide +kernel, ⟨by decide +kernel, by decide +kernel, by decide +kernel⟩, WALL_at 1422 (by decide +kernel) rfl, WALL_at 55 (by decide +kernel) rfl⟩
theorem vi_X6_join : Cond.instanceMethod yX6_join ∈ WALL ∧ Cond.selects RX6 yX6_join yX6_join ∈ WALL := ⟨WALL_at 1420 (by decide +kernel) rfl, WALL_at 1421 (by decide +kernel) rfl⟩
theorem cal_X6_shots : Cal yX6_shots cX6_shots 2 (some FieldType.int) 1 := ⟨by decide +kernel, ⟨by decide +kernel, by decide +kernel, by decide +kernel⟩, WALL_at 1426 (by decide +kernel) rfl, WALL_at 55 (by decide +kernel) rfl⟩
theorem vi_X6_shots : Cond.instanceMethod yX6_shots ∈ WALL ∧ Cond.selects RX6 yX6_shots yX6_shots ∈ WALL := ⟨WALL_at 1424 (by decide +kernel) rfl, WALL_at 1425 (by decide +kernel) rfl⟩
theorem cal_X6_shotOf : Cal yX6_shotOf cX6_shotOf 4 (some FieldType.int) 2 := ⟨by decide +kernel, ⟨by decide +kernel, by decide +kernel, by decide +kernel⟩, WALL_at 1430 (by decide +kernel) rfl, WALL_at 55 (by decide +kernel) rfl⟩
theorem vi_X6_shotOf : Cond.instanceMethod yX6_shotOf ∈ WALL ∧ Cond.selects RX6 yX6_shotOf yX6_shotOf ∈ WALL := ⟨WALL_at 1428 (by decide +kernel) rfl, WALL_at 1429 (by decide +kernel) rfl⟩
theorem cal_X6_lengthOf : Cal yX6_lengthOf cX6_lengthOf 2 (some FieldType.int) 1 := ⟨by decide +kernel, ⟨by decide +kernel, by decide +kernel, by decide +kernel⟩, WALL_at 1434 (by decide +kernel) rfl, WALL_at 55 (by decide +kernel) rfl⟩
theorem vi_X6_lengthOf : Cond.instanceMethod yX6_lengthOf ∈ WALL ∧ Cond.selects RX6 yX6_lengthOf yX6_lengthOf ∈ WALL := ⟨WALL_at 1432 (by decide +kernel) rfl, WALL_at 1433 (by decide +kernel) rfl⟩
theorem cal_X6_frameOf : Cal yX6_frameOf cX6_frameOf 3 (some FieldType.int) 1 := ⟨by decide +kernel, ⟨by decide +kernel, by decide +kernel, by decide +kernel⟩, WALL_at 1438 (by decide +kernel) rfl, WALL_at 55 (by decide +kernel) rfl⟩
theorem vi_X6_frameOf : Cond.instanceMethod yX6_frameOf ∈ WALL ∧ Cond.selects RX6 yX6_frameOf yX6_frameOf ∈ WALL := ⟨WALL_at 1436 (by decide +kernel) rfl, WALL_at 1437 (by decide +kernel) rfl⟩
theorem cal_X6_framesAhead : Cal yX6_framesAhead cX6_framesAhead 6 (some FieldType.int) 2 := ⟨by decide +kernel, ⟨by decide +kernel, by decide +kernel, by decide +kernel⟩, WALL_at 1442 (by decide +kernel) rfl, WALL_at 55 (by decide +kernel) rfl⟩
theorem vi_X6_framesAhead : Cond.instanceMethod yX6_framesAhead ∈ WALL ∧ Cond.selects RX6 yX6_framesAhead yX6_framesAhead ∈ WALL := ⟨WALL_at 1441 (by decide +kernel) rfl, WALL_at 37 (by decide +kernel) rfl⟩
theorem cal_X6_shotAt : Cal yX6_shotAt cX6_shotAt 5 (some FieldType.int) 2 := ⟨by decide +kernel, ⟨by decide +kernel, by decide +kernel, by decide +kernel⟩, WALL_at 1446 (by decide +kernel) rfl, WALL_at 55 (by decide +kernel) rfl⟩
theorem vi_X6_shotAt : Cond.instanceMethod yX6_shotAt ∈ WALL ∧ Cond.selects RX6 yX6_shotAt yX6_shotAt ∈ WALL := ⟨WALL_at 1444 (by decide +kernel) rfl, WALL_at 1445 (by decide +kernel) rfl⟩
theorem cal_X6_shotWith : Cal yX6_shotWith cX6_shotWith 7 (some FieldType.int) 2 := ⟨by decide +kernel, ⟨by decide +kernel, by decide +kernel, by decide +kernel⟩, WALL_at 1450 (by decide +kernel) rfl, WALL_at 55 (by decide +kernel) rfl⟩
theorem vi_X6_shotWith : Cond.instanceMethod yX6_shotWith ∈ WALL ∧ Cond.selects RX6 yX6_shotWith yX6_shotWith ∈ WALL := ⟨WALL_at 1449 (by decide +kernel) rfl, WALL_at 38 (by decide +kernel) rfl⟩
theorem cal_X6_reelOf : Cal yX6_reelOf cX6_reelOf 2 (some FieldType.int) 1 := ⟨by decide +kernel, ⟨by decide +kernel, by decide +kernel, by decide +kernel⟩, WALL_at 1454 (by decide +kernel) rfl, WALL_at 55 (by decide +kernel) rfl⟩
theorem vi_X6_reelOf : Cond.instanceMethod yX6_reelOf ∈ WALL ∧ Cond.selects RX6 yX6_reelOf yX6_reelOf ∈ WALL := ⟨WALL_at 1452 (by decide +kernel) rfl, WALL_at 1453 (by decide +kernel) rfl⟩
theorem cal_X6_setLimit : Cal yX6_setLimit cX6_setLimit 5 (some FieldType.int) 1 := ⟨by decide +kernel, ⟨by decide +kernel, by decide +kernel, by decide +kernel⟩, WALL_at 1458 (by decide +kernel) rfl, WALL_at 55 (by decide +kernel) rfl⟩
theorem vi_X6_setLimit : Cond.instanceMethod yX6_setLimit ∈ WALL ∧ Cond.selects RX6 yX6_setLimit yX6_setLimit ∈ WALL := ⟨WALL_at 1456 (by decide +kernel) rfl, WALL_at 1457 (by decide +kernel) rfl⟩
theorem cal_X6_greatest : Cal yX6_greatest cX6_greatest 4 (some FieldType.int) 1 := ⟨by decide +kernel, ⟨by decide +kernel, by decide +kernel, by decide +kernel⟩, WALL_at 1462 (by decide +kernel) rfl, WALL_at 55 (by decide +kernel) rfl⟩
theorem vi_X6_greatest : Cond.instanceMethod yX6_greatest ∈ WALL ∧ Cond.selects RX6 yX6_greatest yX6_greatest ∈ WALL := ⟨WALL_at 1461 (by decide +kernel) rfl, WALL_at 39 (by decide +kernel) rfl⟩
theorem cal_X6_hasLoan : Cal yX6_hasLoan cX6_hasLoan 3 (some FieldType.boolean) 0 := ⟨by decide +kernel, ⟨by decide +kernel, by decide +kernel, by decide +kernel⟩, WALL_at 1466 (by decide +kernel) rfl, WALL_at 55 (by decide +kernel) rfl⟩
theorem vi_X6_hasLoan : Cond.instanceMethod yX6_hasLoan ∈ WALL ∧ Cond.selects RX6 yX6_hasLoan yX6_hasLoan ∈ WALL := ⟨WALL_at 1465 (by decide +kernel) rfl, WALL_at 40 (by decide +kernel) rfl⟩
theorem cal_X6_run : Cal yX6_run cX6_run 3 (some FieldType.int) 1 := ⟨by decide +kernel, ⟨by decide +kernel, by decide +kernel, by decide +kernel⟩, WALL_at 1470 (by decide +kernel) rfl, WALL_at 55 (by decide +kernel) rfl⟩
theorem vi_X6_run : Cond.instanceMethod yX6_run ∈ WALL ∧ Cond.selects RX6 yX6_run yX6_run ∈ WALL := ⟨WALL_at 1468 (by decide +kernel) rfl, WALL_at 1469 (by decide +kernel) rfl⟩
theorem cal_X6_bears : Cal yX6_bears cX6_bears 3 (some FieldType.boolean) 2 := ⟨by decide +kernel, ⟨by decide +kernel, by decide +kernel, by decide +kernel⟩, WALL_at 1474 (by decide +kernel) rfl, WALL_at 55 (by decide +kernel) rfl⟩
theorem vi_X6_bears : Cond.instanceMethod yX6_bears ∈ WALL ∧ Cond.selects RX6 yX6_bears yX6_bears ∈ WALL := ⟨WALL_at 1473 (by decide +kernel) rfl, WALL_at 41 (by decide +kernel) rfl⟩
theorem cal_X6_wears : Cal yX6_wears cX6_wears 4 none 2 := ⟨by decide +kernel, ⟨by decide +kernel, by decide +kernel, by decide +kernel⟩, WALL_at 1478 (by decide +kernel) rfl, WALL_at 55 (by decide +kernel) rfl⟩
theorem vi_X6_wears : Cond.instanceMethod yX6_wears ∈ WALL ∧ Cond.selects RX6 yX6_wears yX6_wears ∈ WALL := ⟨WALL_at 1477 (by decide +kernel) rfl, WALL_at 42 (by decide +kernel) rfl⟩
theorem cal_X6_framesOn : Cal yX6_framesOn cX6_framesOn 4 (some FieldType.int) 1 := ⟨by decide +kernel, ⟨by decide +kernel, by decide +kernel, by decide +kernel⟩, WALL_at 1482 (by decide +kernel) rfl, WALL_at 55 (by decide +kernel) rfl⟩
theorem vi_X6_framesOn : Cond.instanceMethod yX6_framesOn ∈ WALL ∧ Cond.selects RX6 yX6_framesOn yX6_framesOn ∈ WALL := ⟨WALL_at 1481 (by decide +kernel) rfl, WALL_at 43 (by decide +kernel) rfl⟩
theorem cal_X6_wear : Cal yX6_wear cX6_wear 3 (some FieldType.int) 2 := ⟨by decide +kernel, ⟨by decide +kernel, by decide +kernel, by decide +kernel⟩, WALL_at 1486 (by decide +kernel) rfl, WALL_at 55 (by decide +kernel) rfl⟩
theorem vi_X6_wear : Cond.instanceMethod yX6_wear ∈ WALL ∧ Cond.selects RX6 yX6_wear yX6_wear ∈ WALL := ⟨WALL_at 1484 (by decide +kernel) rfl, WALL_at 1485 (by decide +kernel) rfl⟩
theorem cal_X6_isSplice : Cal yX6_isSplice cX6_isSplice 3 (some FieldType.boolean) 2 := ⟨by decide +kernel, ⟨by decide +kernel, by decide +kernel, by decide +kernel⟩, WALL_at 1490 (by decide +kernel) rfl, WALL_at 55 (by decide +kernel) rfl⟩
theorem vi_X6_isSplice : Cond.instanceMethod yX6_isSplice ∈ WALL ∧ Cond.selects RX6 yX6_isSplice yX6_isSplice ∈ WALL := ⟨WALL_at 1489 (by decide +kernel) rfl, WALL_at 44 (by decide +kernel) rfl⟩
theorem cal_X6_mend : Cal yX6_mend cX6_mend 8 (some FieldType.int) 2 := ⟨by decide +kernel, ⟨by decide +kernel, by decide +kernel, by decide +kernel⟩, WALL_at 1494 (by decide +kernel) rfl, WALL_at 55 (by decide +kernel) rfl⟩
theorem vi_X6_mend : Cond.instanceMethod yX6_mend ∈ WALL ∧ Cond.selects RX6 yX6_mend yX6_mend ∈ WALL := ⟨WALL_at 1492 (by decide +kernel) rfl, WALL_at 1493 (by decide +kernel) rfl⟩
theorem cal_X6_scan : Cal yX6_scan cX6_scan 8 (some FieldType.int) 2 := ⟨by decide +kernel, ⟨by decide +kernel, by decide +kernel, by decide +kernel⟩, WALL_at 1498 (by decide +kernel) rfl, WALL_at 55 (by decide +kernel) rfl⟩
theorem vi_X6_scan : Cond.instanceMethod yX6_scan ∈ WALL ∧ Cond.selects RX6 yX6_scan yX6_scan ∈ WALL := ⟨WALL_at 1496 (by decide +kernel) rfl, WALL_at 1497 (by decide +kernel) rfl⟩
theorem cal_X6_isWorn : Cal yX6_isWorn cX6_isWorn 3 (some FieldType.boolean) 2 := ⟨by decide +kernel, ⟨by decide +kernel, by decide +kernel, by decide +kernel⟩, WALL_at 1502 (by decide +kernel) rfl, WALL_at 55 (by decide +kernel) rfl⟩
theorem vi_X6_isWorn : Cond.instanceMethod yX6_isWorn ∈ WALL ∧ Cond.selects RX6 yX6_isWorn yX6_isWorn ∈ WALL := ⟨WALL_at 1501 (by decide +kernel) rfl, WALL_at 45 (by decide +kernel) rfl⟩
theorem cal_X6_scanned : Cal yX6_scanned cX6_scanned 2 (some FieldType.int) 1 := ⟨by decide +kernel, ⟨by decide +kernel, by decide +kernel, by decide +kernel⟩, WALL_at 1506 (by decide +kernel) rfl, WALL_at 55 (by decide +kernel) rfl⟩
theorem vi_X6_scanned : Cond.instanceMethod yX6_scanned ∈ WALL ∧ Cond.selects RX6 yX6_scanned yX6_scanned ∈ WALL := ⟨WALL_at 1504 (by decide +kernel) rfl, WALL_at 1505 (by decide +kernel) rfl⟩
theorem cal_X6_missed : Cal yX6_missed cX6_missed 2 (some FieldType.int) 1 := ⟨by decide +kernel, ⟨by decide +kernel, by decide +kernel, by decide +kernel⟩, WALL_at 1510 (by decide +kernel) rfl, WALL_at 55 (by decide +kernel) rfl⟩
theorem vi_X6_missed : Cond.instanceMethod yX6_missed ∈ WALL ∧ Cond.selects RX6 yX6_missed yX6_missed ∈ WALL := ⟨WALL_at 1508 (by decide +kernel) rfl, WALL_at 1509 (by decide +kernel) rfl⟩
theorem cal_X6_grade : Cal yX6_grade cX6_grade 6 (some FieldType.int) 2 := ⟨by decide +kernel, ⟨by decide +kernel, by decide +kernel, by decide +kernel⟩, WALL_at 1514 (by decide +kernel) rfl, WALL_at 55 (by decide +kernel) rfl⟩
theorem vi_X6_grade : Cond.instanceMethod yX6_grade ∈ WALL ∧ Cond.selects RX6 yX6_grade yX6_grade ∈ WALL := ⟨WALL_at 1512 (by decide +kernel) rfl, WALL_at 1513 (by decide +kernel) rfl⟩
theorem cal_X6_gradeNow : Cal yX6_gradeNow cX6_gradeNow 2 (some FieldType.int) 1 := ⟨by decide +kernel, ⟨by decide +kernel, by decide +kernel, by decide +kernel⟩, WALL_at 1518 (by decide +kernel) rfl, WALL_at 55 (by decide +kernel) rfl⟩
theorem vi_X6_gradeNow : Cond.instanceMethod yX6_gradeNow ∈ WALL ∧ Cond.selects RX6 yX6_gradeNow yX6_gradeNow ∈ WALL := ⟨WALL_at 1517 (by decide +kernel) rfl, WALL_at 46 (by decide +kernel) rfl⟩
theorem cal_X6_passOn : Cal yX6_passOn cX6_passOn 5 (some FieldType.int) 1 := ⟨by decide +kernel, ⟨by decide +kernel, by decide +kernel, by decide +kernel⟩, WALL_at 1522 (by decide +kernel) rfl, WALL_at 55 (by decide +kernel) rfl⟩
theorem vi_X6_passOn : Cond.instanceMethod yX6_passOn ∈ WALL ∧ Cond.selects RX6 yX6_passOn yX6_passOn ∈ WALL := ⟨WALL_at 1520 (by decide +kernel) rfl, WALL_at 1521 (by decide +kernel) rfl⟩
theorem cal_X6_gradeOf : Cal yX6_gradeOf cX6_gradeOf 2 (some FieldType.int) 1 := ⟨by decide +kernel, ⟨by decide +kernel, by decide +kernel, by decide +kernel⟩, WALL_at 1526 (by decide +kernel) rfl, WALL_at 55 (by decide +kernel) rfl⟩
theorem vi_X6_gradeOf : Cond.instanceMethod yX6_gradeOf ∈ WALL ∧ Cond.selects RX6 yX6_gradeOf yX6_gradeOf ∈ WALL := ⟨WALL_at 1524 (by decide +kernel) rfl, WALL_at 1525 (by decide +kernel) rfl⟩
theorem cal_X6_gradeFrom : Cal yX6_gradeFrom cX6_gradeFrom 2 (some FieldType.int) 1 := ⟨by decide +kernel, ⟨by decide +kernel, by decide +kernel, by decide +kernel⟩, WALL_at 1530 (by decide +kernel) rfl, WALL_at 55 (by decide +kernel) rfl⟩
theorem vi_X6_gradeFrom : Cond.instanceMethod yX6_gradeFrom ∈ WALL ∧ Cond.selects RX6 yX6_gradeFrom yX6_gradeFrom ∈ WALL := ⟨WALL_at 1528 (by decide +kernel) rfl, WALL_at 1529 (by decide +kernel) rfl⟩
theorem cal_X6_addVersion : Cal yX6_addVersion cX6_addVersion 6 (some FieldType.int) 2 := ⟨by decide +kernel, ⟨by decide +kernel, by decide +kernel, by decide +kernel⟩, WALL_at 1534 (by decide +kernel) rfl, WALL_at 55 (by decide +kernel) rfl⟩
theorem vi_X6_addVersion : Cond.instanceMethod yX6_addVersion ∈ WALL ∧ Cond.selects RX6 yX6_addVersion yX6_addVersion ∈ WALL := ⟨WALL_at 1532 (by decide +kernel) rfl, WALL_at 1533 (by decide +kernel) rfl⟩
theorem cal_X6_leaveOut : Cal yX6_leaveOut cX6_leaveOut 13 (some FieldType.int) 4 := ⟨by decide +kernel, ⟨by decide +kernel, by decide +kernel, by decide +kernel⟩, WALL_at 1538 (by decide +kernel) rfl, WALL_at 55 (by decide +kernel) rfl⟩
theorem vi_X6_leaveOut : Cond.instanceMethod yX6_leaveOut ∈ WALL ∧ Cond.selects RX6 yX6_leaveOut yX6_leaveOut ∈ WALL := ⟨WALL_at 1536 (by decide +kernel) rfl, WALL_at 1537 (by decide +kernel) rfl⟩
theorem cal_X6_isVersion : Cal yX6_isVersion cX6_isVersion 2 (some FieldType.boolean) 1 := ⟨by decide +kernel, ⟨by decide +kernel, by decide +kernel, by decide +kernel⟩, WALL_at 1542 (by decide +kernel) rfl, WALL_at 55 (by decide +kernel) rfl⟩
theorem vi_X6_isVersion : Cond.instanceMethod yX6_isVersion ∈ WALL ∧ Cond.selects RX6 yX6_isVersion yX6_isVersion ∈ WALL := ⟨WALL_at 1541 (by decide +kernel) rfl, WALL_at 47 (by decide +kernel) rfl⟩
theorem cal_X6_isOutOf : Cal yX6_isOutOf cX6_isOutOf 4 (some FieldType.boolean) 3 := ⟨by decide +kernel, ⟨by decide +kernel, by decide +kernel, by decide +kernel⟩, WALL_at 1546 (by decide +kernel) rfl, WALL_at 55 (by decide +kernel) rfl⟩
theorem vi_X6_isOutOf : Cond.instanceMethod yX6_isOutOf ∈ WALL ∧ Cond.selects RX6 yX6_isOutOf yX6_isOutOf ∈ WALL := ⟨WALL_at 1545 (by decide +kernel) rfl, WALL_at 48 (by decide +kernel) rfl⟩
theorem cal_X6_frames : Cal yX6_frames cX6_frames 7 (some FieldType.int) 1 := ⟨by decide +kernel, ⟨by decide +kernel, by decide +kernel, by decide +kernel⟩, WALL_at 1550 (by decide +kernel) rfl, WALL_at 55 (by decide +kernel) rfl⟩
theorem vi_X6_frames : Cond.instanceMethod yX6_frames ∈ WALL ∧ Cond.selects RX6 yX6_frames yX6_frames ∈ WALL := ⟨WALL_at 1548 (by decide +kernel) rfl, WALL_at 1549 (by decide +kernel) rfl⟩
theorem cal_X6_lend : Cal yX6_lend cX6_lend 9 (some FieldType.int) 4 := ⟨by decide +kernel, ⟨by decide +kernel, by decide +kernel, by decide +kernel⟩, WALL_at 1554 (by decide +kernel) rfl, WALL_at 55 (by decide +kernel) rfl⟩
theorem vi_X6_lend : Cond.instanceMethod yX6_lend ∈ WALL ∧ Cond.selects RX6 yX6_lend yX6_lend ∈ WALL := ⟨WALL_at 1552 (by decide +kernel) rfl, WALL_at 1553 (by decide +kernel) rfl⟩
theorem cal_X6_show : Cal yX6_show cX6_show 4 (some FieldType.int) 1 := ⟨by decide +kernel, ⟨by decide +kernel, by decide +kernel, by decide +kernel⟩, WALL_at 1558 (by decide +kernel) rfl, WALL_at 55 (by decide +kernel) rfl⟩
theorem vi_X6_show : Cond.instanceMethod yX6_show ∈ WALL ∧ Cond.selects RX6 yX6_show yX6_show ∈ WALL := ⟨WALL_at 1556 (by decide +kernel) rfl, WALL_at 1557 (by decide +kernel) rfl⟩
theorem cal_X6_isLoan : Cal yX6_isLoan cX6_isLoan 2 (some FieldType.boolean) 1 := ⟨by decide +kernel, ⟨by decide +kernel, by decide +kernel, by decide +kernel⟩, WALL_at 1562 (by decide +kernel) rfl, WALL_at 55 (by decide +kernel) rfl⟩
theorem vi_X6_isLoan : Cond.instanceMethod yX6_isLoan ∈ WALL ∧ Cond.selects RX6 yX6_isLoan yX6_isLoan ∈ WALL := ⟨WALL_at 1561 (by decide +kernel) rfl, WALL_at 49 (by decide +kernel) rfl⟩
theorem cal_X6_giveBack : Cal yX6_giveBack cX6_giveBack 3 (some FieldType.int) 1 := ⟨by decide +kernel, ⟨by decide +kernel, by decide +kernel, by decide +kernel⟩, WALL_at 1566 (by decide +kernel) rfl, WALL_at 55 (by decide +kernel) rfl⟩
theorem vi_X6_giveBack : Cond.instanceMethod yX6_giveBack ∈ WALL ∧ Cond.selects RX6 yX6_giveBack yX6_giveBack ∈ WALL := ⟨WALL_at 1564 (by decide +kernel) rfl, WALL_at 1565 (by decide +kernel) rfl⟩
theorem cal_X6_advance : Cal yX6_advance cX6_advance 4 (some FieldType.int) 1 := ⟨by decide +kernel, ⟨by decide +kernel, by decide +kernel, by decide +kernel⟩, WALL_at 1570 (by decide +kernel) rfl, WALL_at 55 (by decide +kernel) rfl⟩
theorem vi_X6_advance : Cond.instanceMethod yX6_advance ∈ WALL ∧ Cond.selects RX6 yX6_advance yX6_advance ∈ WALL := ⟨WALL_at 1568 (by decide +kernel) rfl, WALL_at 1569 (by decide +kernel) rfl⟩
theorem cal_X6_shown : Cal yX6_shown cX6_shown 1 (some FieldType.long) 0 := ⟨by decide +kernel, ⟨by decide +kernel, by decide +kernel, by decide +kernel⟩, WALL_at 1574 (by decide +kernel) rfl, WALL_at 55 (by decide +kernel) rfl⟩
theorem vi_X6_shown : Cond.instanceMethod yX6_shown ∈ WALL ∧ Cond.selects RX6 yX6_shown yX6_shown ∈ WALL := ⟨WALL_at 1572 (by decide +kernel) rfl, WALL_at 1573 (by decide +kernel) rfl⟩
theorem cal_X6_keptShare : Cal yX6_keptShare cX6_keptShare 3 (some FieldType.float) 0 := ⟨by decide +kernel, ⟨by decide +kernel, by decide +kernel, by decide +kernel⟩, WALL_at 1578 (by decide +kernel) rfl, WALL_at 55 (by decide +kernel) rfl⟩
theorem vi_X6_keptShare : Cond.instanceMethod yX6_keptShare ∈ WALL ∧ Cond.selects RX6 yX6_keptShare yX6_keptShare ∈ WALL := ⟨WALL_at 1576 (by decide +kernel) rfl, WALL_at 1577 (by decide +kernel) rfl⟩
theorem cal_X6_meanWear : Cal yX6_meanWear cX6_meanWear 5 (some FieldType.double) 0 := ⟨by decide +kernel, ⟨by decide +kernel, by decide +kernel, by decide +kernel⟩, WALL_at 1582 (by decide +kernel) rfl, WALL_at 55 (by decide +kernel) rfl⟩
theorem vi_X6_meanWear : Cond.instanceMethod yX6_meanWear ∈ WALL ∧ Cond.selects RX6 yX6_meanWear yX6_meanWear ∈ WALL := ⟨WALL_at 1580 (by decide +kernel) rfl, WALL_at 1581 (by decide +kernel) rfl⟩
theorem cal_X6_isSound : Cal yX6_isSound cX6_isSound 1 (some FieldType.boolean) 0 := ⟨by decide +kernel, ⟨by decide +kernel, by decide +kernel, by decide +kernel⟩, WALL_at 1586 (by decide +kernel) rfl, WALL_at 55 (by decide +kernel) rfl⟩
theorem vi_X6_isSound : Cond.instanceMethod yX6_isSound ∈ WALL ∧ Cond.selects RX6 yX6_isSound yX6_isSound ∈ WALL := ⟨WALL_at 1584 (by decide +kernel) rfl, WALL_at 1585 (by decide +kernel) rfl⟩
theorem in_Oj : Cond.instanceMethod objectInit ∈ WALL := WALL_at 91 (by decide +kernel) rfl
theorem ini_Ma : Cond.initialized "java/lang/Math" ∈ WALL := WALL_at 62 (by decide +kernel) rfl
theorem ini_Sy : Cond.initialized "java/lang/System" ∈ WALL := WALL_at 64 (by decide +kernel) rfl
theorem co_Oj : Cond.code objectInit ⟨#[0xb1]⟩ 1 none ∈ WALL := WALL_at 92 (by decide +kernel) rfl
theorem kc_Lg_314 : Cond.constantLong RJ13 314 (6148914691236517205) ∈ WALL := WALL_at 218 (by decide +kernel) rfl
theorem kc_Lg_316 : Cond.constantLong RJ13 316 (3689348814741910323) ∈ WALL := WALL_at 219 (by decide +kernel) rfl
theorem kc_Lg_318 : Cond.constantLong RJ13 318 (1085102592571150095) ∈ WALL := WALL_at 220 (by decide +kernel) rfl
theorem ac_byte : Cond.arrayClass .byte ∈ WALL := WALL_at 308 (by decide +kernel) rfl
theorem sm_max : Cond.static Lib.Math.max.name ∈ WALL := WALL_at 346 (by decide +kernel) rfl
theorem co_max : Cond.code Lib.Math.max.name Lib.Math.max.code 2 (some .int) ∈ WALL := WALL_at 347 (by decide +kernel) rfl
theorem kc_As_200 : Cond.constant RJ8 200 (2147483639) ∈ WALL := WALL_at 348 (by decide +kernel) rfl
theorem sm_min : Cond.static Lib.Math.min.name ∈ WALL := WALL_at 383 (by decide +kernel) rfl
theorem co_min : Cond.code Lib.Math.min.name Lib.Math.min.code 2 (some .int) ∈ WALL := WALL_at 384 (by decide +kernel) rfl
theorem st_cp : Cond.static arraycopyName ∈ WALL := WALL_at 386 (by decide +kernel) rfl
theorem na_cp : Cond.native arraycopyName ∈ WALL := WALL_at 387 (by decide +kernel) rfl
theorem kc_Ve_32 : Cond.constantLong RX4 32 (-1) ∈ WALL := WALL_at 1018 (by decide +kernel) rfl
theorem ac_long : Cond.arrayClass .long ∈ WALL := WALL_at 1121 (by decide +kernel) rfl
theorem ac_int : Cond.arrayClass .int ∈ WALL := WALL_at 1351 (by decide +kernel) rfl
theorem ac_boolean : Cond.arrayClass .boolean ∈ WALL := WALL_at 1352 (by decide +kernel) rfl
theorem ac_double : Cond.arrayClass .double ∈ WALL := WALL_at 1587 (by decide +kernel) rfl
