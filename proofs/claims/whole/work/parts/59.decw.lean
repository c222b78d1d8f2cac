theorem dL_addFilm_0 : decode cL_addFilm 0 = .ok (.aload_n 1, 1) := by decide +kernel
theorem dL_addFilm_1 : decode cL_addFilm 1 = .ok (.iconst 0, 1) := by decide +kernel
theorem dL_addFilm_2 : decode cL_addFilm 2 = .ok (.aload_n 0, 1) := by decide +kernel
theorem dL_addFilm_3 : decode cL_addFilm 3 = .ok (.invokevirtual 7, 3) := by decide +kernel
theorem dL_addFilm_6 : decode cL_addFilm 6 = .ok (.i2l, 1) := by decide +kernel
theorem dL_addFilm_7 : decode cL_addFilm 7 = .ok (.lastore, 1) := by decide +kernel
theorem dL_addFilm_8 : decode cL_addFilm 8 = .ok (.goto 6, 3) := by decide +kernel
theorem dL_addFilm_11 : decode cL_addFilm 11 = .ok (.astore_n 2, 1) := by decide +kernel
theorem dL_addFilm_12 : decode cL_addFilm 12 = .ok (.iconst 1, 1) := by decide +kernel
theorem dL_addFilm_13 : decode cL_addFilm 13 = .ok (.ireturn, 1) := by decide +kernel
theorem dL_addFilm_14 : decode cL_addFilm 14 = .ok (.iconst 0, 1) := by decide +kernel
theorem dL_addFilm_15 : decode cL_addFilm 15 = .ok (.ireturn, 1) := by decide +kernel
theorem dL_addShot_0 : decode cL_addShot 0 = .ok (.aload 4, 2) := by decide +kernel
theorem dL_addShot_2 : decode cL_addShot 2 = .ok (.iconst 0, 1) := by decide +kernel
theorem dL_addShot_3 : decode cL_addShot 3 = .ok (.aload_n 0, 1) := by decide +kernel
theorem dL_addShot_4 : decode cL_addShot 4 = .ok (.iload_n 1, 1) := by decide +kernel
theorem dL_addShot_5 : decode cL_addShot 5 = .ok (.iload_n 2, 1) := by decide +kernel
theorem dL_addShot_6 : decode cL_addShot 6 = .ok (.iload_n 3, 1) := by decide +kernel
theorem dL_addShot_7 : decode cL_addShot 7 = .ok (.invokevirtual 15, 3) := by decide +kernel
theorem dL_addShot_10 : decode cL_addShot 10 = .ok (.i2l, 1) := by decide +kernel
theorem dL_addShot_11 : decode cL_addShot 11 = .ok (.lastore, 1) := by decide +kernel
theorem dL_addShot_12 : decode cL_addShot 12 = .ok (.goto 15, 3) := by decide +kernel
theorem dL_addShot_15 : decode cL_addShot 15 = .ok (.astore 5, 2) := by decide +kernel
theorem dL_addShot_17 : decode cL_addShot 17 = .ok (.iconst 1, 1) := by decide +kernel
theorem dL_addShot_18 : decode cL_addShot 18 = .ok (.ireturn, 1) := by decide +kernel
theorem dL_addShot_19 : decode cL_addShot 19 = .ok (.astore 5, 2) := by decide +kernel
theorem dL_addShot_21 : decode cL_addShot 21 = .ok (.iconst 2, 1) := by decide +kernel
theorem dL_addShot_22 : decode cL_addShot 22 = .ok (.ireturn, 1) := by decide +kernel
theorem dL_addShot_23 : decode cL_addShot 23 = .ok (.astore 5, 2) := by decide +kernel
theorem dL_addShot_25 : decode cL_addShot 25 = .ok (.iconst 3, 1) := by decide +kernel
theorem dL_addShot_26 : decode cL_addShot 26 = .ok (.ireturn, 1) := by decide +kernel
theorem dL_addShot_27 : decode cL_addShot 27 = .ok (.iconst 0, 1) := by decide +kernel
theorem dL_addShot_28 : decode cL_addShot 28 = .ok (.ireturn, 1) := by decide +kernel
theorem dL_addReel_0 : decode cL_addReel 0 = .ok (.aload_n 2, 1) := by decide +kernel
theorem dL_addReel_1 : decode cL_addReel 1 = .ok (.iconst 0, 1) := by decide +kernel
theorem dL_addReel_2 : decode cL_addReel 2 = .ok (.aload_n 0, 1) := by decide +kernel
theorem dL_addReel_3 : decode cL_addReel 3 = .ok (.iload_n 1, 1) := by decide +kernel
theorem dL_addReel_4 : decode cL_addReel 4 = .ok (.invokevirtual 23, 3) := by decide +kernel
theorem dL_addReel_7 : decode cL_addReel 7 = .ok (.i2l, 1) := by decide +kernel
theorem dL_addReel_8 : decode cL_addReel 8 = .ok (.lastore, 1) := by decide +kernel
theorem dL_addReel_9 : decode cL_addReel 9 = .ok (.goto 9, 3) := by decide +kernel
theorem dL_addReel_12 : decode cL_addReel 12 = .ok (.astore_n 3, 1) := by decide +kernel
theorem dL_addReel_13 : decode cL_addReel 13 = .ok (.iconst 1, 1) := by decide +kernel
theorem dL_addReel_14 : decode cL_addReel 14 = .ok (.ireturn, 1) := by decide +kernel
theorem dL_addReel_15 : decode cL_addReel 15 = .ok (.astore_n 3, 1) := by decide +kernel
theorem dL_addReel_16 : decode cL_addReel 16 = .ok (.iconst 2, 1) := by decide +kernel
theorem dL_addReel_17 : decode cL_addReel 17 = .ok (.ireturn, 1) := by decide +kernel
theorem dL_addReel_18 : decode cL_addReel 18 = .ok (.iconst 0, 1) := by decide +kernel
theorem dL_addReel_19 : decode cL_addReel 19 = .ok (.ireturn, 1) := by decide +kernel
theorem dL_put_0 : decode cL_put 0 = .ok (.aload_n 3, 1) := by decide +kernel
theorem dL_put_1 : decode cL_put 1 = .ok (.iconst 0, 1) := by decide +kernel
theorem dL_put_2 : decode cL_put 2 = .ok (.aload_n 0, 1) := by decide +kernel
theorem dL_put_3 : decode cL_put 3 = .ok (.iload_n 1, 1) := by decide +kernel
theorem dL_put_4 : decode cL_put 4 = .ok (.iload_n 2, 1) := by decide +kernel
theorem dL_put_5 : decode cL_put 5 = .ok (.invokevirtual 27, 3) := by decide +kernel
theorem dL_put_8 : decode cL_put 8 = .ok (.i2l, 1) := by decide +kernel
theorem dL_put_9 : decode cL_put 9 = .ok (.lastore, 1) := by decide +kernel
theorem dL_put_10 : decode cL_put 10 = .ok (.goto 15, 3) := by decide +kernel
theorem dL_put_13 : decode cL_put 13 = .ok (.astore 4, 2) := by decide +kernel
theorem dL_put_15 : decode cL_put 15 = .ok (.iconst 1, 1) := by decide +kernel
theorem dL_put_16 : decode cL_put 16 = .ok (.ireturn, 1) := by decide +kernel
theorem dL_put_17 : decode cL_put 17 = .ok (.astore 4, 2) := by decide +kernel
theorem dL_put_19 : decode cL_put 19 = .ok (.iconst 2, 1) := by decide +kernel
theorem dL_put_20 : decode cL_put 20 = .ok (.ireturn, 1) := by decide +kernel
theorem dL_put_21 : decode cL_put 21 = .ok (.astore 4, 2) := by decide +kernel
theorem dL_put_23 : decode cL_put 23 = .ok (.iconst 3, 1) := by decide +kernel
theorem dL_put_24 : decode cL_put 24 = .ok (.ireturn, 1) := by decide +kernel
theorem dL_put_25 : decode cL_put 25 = .ok (.iconst 0, 1) := by decide +kernel
theorem dL_put_26 : decode cL_put 26 = .ok (.ireturn, 1) := by decide +kernel
theorem dL_found_0 : decode cL_found 0 = .ok (.aload 5, 2) := by decide +kernel
theorem dL_found_2 : decode cL_found 2 = .ok (.iconst 0, 1) := by decide +kernel
theorem dL_found_3 : decode cL_found 3 = .ok (.aload_n 0, 1) := by decide +kernel
theorem dL_found_4 : decode cL_found 4 = .ok (.iload_n 1, 1) := by decide +kernel
theorem dL_found_5 : decode cL_found 5 = .ok (.iload_n 2, 1) := by decide +kernel
theorem dL_found_6 : decode cL_found 6 = .ok (.iload_n 3, 1) := by decide +kernel
theorem dL_found_7 : decode cL_found 7 = .ok (.iload 4, 2) := by decide +kernel
theorem dL_found_9 : decode cL_found 9 = .ok (.invokevirtual 33, 3) := by decide +kernel
theorem dL_found_12 : decode cL_found 12 = .ok (.i2l, 1) := by decide +kernel
theorem dL_found_13 : decode cL_found 13 = .ok (.lastore, 1) := by decide +kernel
theorem dL_found_14 : decode cL_found 14 = .ok (.goto 19, 3) := by decide +kernel
theorem dL_found_17 : decode cL_found 17 = .ok (.astore 6, 2) := by decide +kernel
theorem dL_found_19 : decode cL_found 19 = .ok (.iconst 1, 1) := by decide +kernel
theorem dL_found_20 : decode cL_found 20 = .ok (.ireturn, 1) := by decide +kernel
theorem dL_found_21 : decode cL_found 21 = .ok (.astore 6, 2) := by decide +kernel
theorem dL_found_23 : decode cL_found 23 = .ok (.iconst 2, 1) := by decide +kernel
theorem dL_found_24 : decode cL_found 24 = .ok (.ireturn, 1) := by decide +kernel
theorem dL_found_25 : decode cL_found 25 = .ok (.astore 6, 2) := by decide +kernel
theorem dL_found_27 : decode cL_found 27 = .ok (.iconst 3, 1) := by decide +kernel
theorem dL_found_28 : decode cL_found 28 = .ok (.ireturn, 1) := by decide +kernel
theorem dL_found_29 : decode cL_found 29 = .ok (.astore 6, 2) := by decide +kernel
theorem dL_found_31 : decode cL_found 31 = .ok (.iconst 4, 1) := by decide +kernel
theorem dL_found_32 : decode cL_found 32 = .ok (.ireturn, 1) := by decide +kernel
theorem dL_found_33 : decode cL_found 33 = .ok (.iconst 0, 1) := by decide +kernel
theorem dL_found_34 : decode cL_found 34 = .ok (.ireturn, 1) := by decide +kernel
theorem dL_join_0 : decode cL_join 0 = .ok (.aload_n 3, 1) := by decide +kernel
theorem dL_join_1 : decode cL_join 1 = .ok (.iconst 0, 1) := by decide +kernel
theorem dL_join_2 : decode cL_join 2 = .ok (.aload_n 0, 1) := by decide +kernel
theorem dL_join_3 : decode cL_join 3 = .ok (.iload_n 1, 1) := by decide +kernel
theorem dL_join_4 : decode cL_join 4 = .ok (.iload_n 2, 1) := by decide +kernel
theorem dL_join_5 : decode cL_join 5 = .ok (.invokevirtual 37, 3) := by decide +kernel
theorem dL_join_8 : decode cL_join 8 = .ok (.i2l, 1) := by decide +kernel
theorem dL_join_9 : decode cL_join 9 = .ok (.lastore, 1) := by decide +kernel
theorem dL_join_10 : decode cL_join 10 = .ok (.goto 15, 3) := by decide +kernel
theorem dL_join_13 : decode cL_join 13 = .ok (.astore 4, 2) := by decide +kernel
theorem dL_join_15 : decode cL_join 15 = .ok (.iconst 1, 1) := by decide +kernel
theorem dL_join_16 : decode cL_join 16 = .ok (.ireturn, 1) := by decide +kernel
theorem dL_join_17 : decode cL_join 17 = .ok (.astore 4, 2) := by decide +kernel
theorem dL_join_19 : decode cL_join 19 = .ok (.iconst 2, 1) := by decide +kernel
theorem dL_join_20 : decode cL_join 20 = .ok (.ireturn, 1) := by decide +kernel
theorem dL_join_21 : decode cL_join 21 = .ok (.astore 4, 2) := by decide +kernel
theorem dL_join_23 : decode cL_join 23 = .ok (.iconst 3, 1) := by decide +kernel
theorem dL_join_24 : decode cL_join 24 = .ok (.ireturn, 1) := by decide +kernel
theorem dL_join_25 : decode cL_join 25 = .ok (.iconst 0, 1) := by decide +kernel
theorem dL_join_26 : decode cL_join 26 = .ok (.ireturn, 1) := by decide +kernel
theorem dL_shots_0 : decode cL_shots 0 = .ok (.aload_n 2, 1) := by decide +kernel
theorem dL_shots_1 : decode cL_shots 1 = .ok (.iconst 0, 1) := by decide +kernel
theorem dL_shots_2 : decode cL_shots 2 = .ok (.aload_n 0, 1) := by decide +kernel
theorem dL_shots_3 : decode cL_shots 3 = .ok (.iload_n 1, 1) := by decide +kernel
theorem dL_shots_4 : decode cL_shots 4 = .ok (.invokevirtual 40, 3) := by decide +kernel
theorem dL_shots_7 : decode cL_shots 7 = .ok (.i2l, 1) := by decide +kernel
theorem dL_shots_8 : decode cL_shots 8 = .ok (.lastore, 1) := by decide +kernel
theorem dL_shots_9 : decode cL_shots 9 = .ok (.goto 6, 3) := by decide +kernel
theorem dL_shots_12 : decode cL_shots 12 = .ok (.astore_n 3, 1) := by decide +kernel
theorem dL_shots_13 : decode cL_shots 13 = .ok (.iconst 1, 1) := by decide +kernel
theorem dL_shots_14 : decode cL_shots 14 = .ok (.ireturn, 1) := by decide +kernel
theorem dL_shots_15 : decode cL_shots 15 = .ok (.iconst 0, 1) := by decide +kernel
theorem dL_shots_16 : decode cL_shots 16 = .ok (.ireturn, 1) := by decide +kernel
theorem dL_shotOf_0 : decode cL_shotOf 0 = .ok (.aload_n 3, 1) := by decide +kernel
theorem dL_shotOf_1 : decode cL_shotOf 1 = .ok (.iconst 0, 1) := by decide +kernel
theorem dL_shotOf_2 : decode cL_shotOf 2 = .ok (.aload_n 0, 1) := by decide +kernel
theorem dL_shotOf_3 : decode cL_shotOf 3 = .ok (.iload_n 1, 1) := by decide +kernel
theorem dL_shotOf_4 : decode cL_shotOf 4 = .ok (.iload_n 2, 1) := by decide +kernel
theorem dL_shotOf_5 : decode cL_shotOf 5 = .ok (.invokevirtual 43, 3) := by decide +kernel
theorem dL_shotOf_8 : decode cL_shotOf 8 = .ok (.i2l, 1) := by decide +kernel
theorem dL_shotOf_9 : decode cL_shotOf 9 = .ok (.lastore, 1) := by decide +kernel
theorem dL_shotOf_10 : decode cL_shotOf 10 = .ok (.goto 7, 3) := by decide +kernel
theorem dL_shotOf_13 : decode cL_shotOf 13 = .ok (.astore 4, 2) := by decide +kernel
theorem dL_shotOf_15 : decode cL_shotOf 15 = .ok (.iconst 1, 1) := by decide +kernel
theorem dL_shotOf_16 : decode cL_shotOf 16 = .ok (.ireturn, 1) := by decide +kernel
theorem dL_shotOf_17 : decode cL_shotOf 17 = .ok (.iconst 0, 1) := by decide +kernel
theorem dL_shotOf_18 : decode cL_shotOf 18 = .ok (.ireturn, 1) := by decide +kernel
theorem dL_lengthOf_0 : decode cL_lengthOf 0 = .ok (.aload_n 2, 1) := by decide +kernel
theorem dL_lengthOf_1 : decode cL_lengthOf 1 = .ok (.iconst 0, 1) := by decide +kernel
theorem dL_lengthOf_2 : decode cL_lengthOf 2 = .ok (.aload_n 0, 1) := by decide +kernel
theorem dL_lengthOf_3 : decode cL_lengthOf 3 = .ok (.iload_n 1, 1) := by decide +kernel
theorem dL_lengthOf_4 : decode cL_lengthOf 4 = .ok (.invokevirtual 46, 3) := by decide +kernel
theorem dL_lengthOf_7 : decode cL_lengthOf 7 = .ok (.i2l, 1) := by decide +kernel
theorem dL_lengthOf_8 : decode cL_lengthOf 8 = .ok (.lastore, 1) := by decide +kernel
theorem dL_lengthOf_9 : decode cL_lengthOf 9 = .ok (.goto 6, 3) := by decide +kernel
theorem dL_lengthOf_12 : decode cL_lengthOf 12 = .ok (.astore_n 3, 1) := by decide +kernel
theorem dL_lengthOf_13 : decode cL_lengthOf 13 = .ok (.iconst 1, 1) := by decide +kernel
theorem dL_lengthOf_14 : decode cL_lengthOf 14 = .ok (.ireturn, 1) := by decide +kernel
theorem dL_lengthOf_15 : decode cL_lengthOf 15 = .ok (.iconst 0, 1) := by decide +kernel
theorem dL_lengthOf_16 : decode cL_lengthOf 16 = .ok (.ireturn, 1) := by decide +kernel
theorem dL_frameOf_0 : decode cL_frameOf 0 = .ok (.aload_n 2, 1) := by decide +kernel
theorem dL_frameOf_1 : decode cL_frameOf 1 = .ok (.iconst 0, 1) := by decide +kernel
theorem dL_frameOf_2 : decode cL_frameOf 2 = .ok (.aload_n 0, 1) := by decide +kernel
theorem dL_frameOf_3 : decode cL_frameOf 3 = .ok (.iload_n 1, 1) := by decide +kernel
theorem dL_frameOf_4 : decode cL_frameOf 4 = .ok (.invokevirtual 49, 3) := by decide +kernel
theorem dL_frameOf_7 : decode cL_frameOf 7 = .ok (.i2l, 1) := by decide +kernel
theorem dL_frameOf_8 : decode cL_frameOf 8 = .ok (.lastore, 1) := by decide +kernel
theorem dL_frameOf_9 : decode cL_frameOf 9 = .ok (.goto 9, 3) := by decide +kernel
theorem dL_frameOf_12 : decode cL_frameOf 12 = .ok (.astore_n 3, 1) := by decide +kernel
theorem dL_frameOf_13 : decode cL_frameOf 13 = .ok (.iconst 1, 1) := by decide +kernel
theorem dL_frameOf_14 : decode cL_frameOf 14 = .ok (.ireturn, 1) := by decide +kernel
theorem dL_frameOf_15 : decode cL_frameOf 15 = .ok (.astore_n 3, 1) := by decide +kernel
theorem dL_frameOf_16 : decode cL_frameOf 16 = .ok (.iconst 2, 1) := by decide +kernel
theorem dL_frameOf_17 : decode cL_frameOf 17 = .ok (.ireturn, 1) := by decide +kernel
theorem dL_frameOf_18 : decode cL_frameOf 18 = .ok (.iconst 0, 1) := by decide +kernel
theorem dL_frameOf_19 : decode cL_frameOf 19 = .ok (.ireturn, 1) := by decide +kernel
theorem dL_shotAt_0 : decode cL_shotAt 0 = .ok (.aload_n 3, 1) := by decide +kernel
theorem dL_shotAt_1 : decode cL_shotAt 1 = .ok (.iconst 0, 1) := by decide +kernel
theorem dL_shotAt_2 : decode cL_shotAt 2 = .ok (.aload_n 0, 1) := by decide +kernel
theorem dL_shotAt_3 : decode cL_shotAt 3 = .ok (.iload_n 1, 1) := by decide +kernel
theorem dL_shotAt_4 : decode cL_shotAt 4 = .ok (.iload_n 2, 1) := by decide +kernel
theorem dL_shotAt_5 : decode cL_shotAt 5 = .ok (.invokevirtual 54, 3) := by decide +kernel
theorem dL_shotAt_8 : decode cL_shotAt 8 = .ok (.i2l, 1) := by decide +kernel
theorem dL_shotAt_9 : decode cL_shotAt 9 = .ok (.lastore, 1) := by decide +kernel
theorem dL_shotAt_10 : decode cL_shotAt 10 = .ok (.goto 11, 3) := by decide +kernel
theorem dL_shotAt_13 : decode cL_shotAt 13 = .ok (.astore 4, 2) := by decide +kernel
theorem dL_shotAt_15 : decode cL_shotAt 15 = .ok (.iconst 1, 1) := by decide +kernel
theorem dL_shotAt_16 : decode cL_shotAt 16 = .ok (.ireturn, 1) := by decide +kernel
theorem dL_shotAt_17 : decode cL_shotAt 17 = .ok (.astore 4, 2) := by decide +kernel
theorem dL_shotAt_19 : decode cL_shotAt 19 = .ok (.iconst 2, 1) := by decide +kernel
theorem dL_shotAt_20 : decode cL_shotAt 20 = .ok (.ireturn, 1) := by decide +kernel
theorem dL_shotAt_21 : decode cL_shotAt 21 = .ok (.iconst 0, 1) := by decide +kernel
theorem dL_shotAt_22 : decode cL_shotAt 22 = .ok (.ireturn, 1) := by decide +kernel
theorem dL_reelOf_0 : decode cL_reelOf 0 = .ok (.aload_n 2, 1) := by decide +kernel
theorem dL_reelOf_1 : decode cL_reelOf 1 = .ok (.iconst 0, 1) := by decide +kernel
theorem dL_reelOf_2 : decode cL_reelOf 2 = .ok (.aload_n 0, 1) := by decide +kernel
theorem dL_reelOf_3 : decode cL_reelOf 3 = .ok (.iload_n 1, 1) := by decide +kernel
theorem dL_reelOf_4 : decode cL_reelOf 4 = .ok (.invokevirtual 57, 3) := by decide +kernel
theorem dL_reelOf_7 : decode cL_reelOf 7 = .ok (.i2l, 1) := by decide +kernel
theorem dL_reelOf_8 : decode cL_reelOf 8 = .ok (.lastore, 1) := by decide +kernel
theorem dL_reelOf_9 : decode cL_reelOf 9 = .ok (.goto 6, 3) := by decide +kernel
theorem dL_reelOf_12 : decode cL_reelOf 12 = .ok (.astore_n 3, 1) := by decide +kernel
theorem dL_reelOf_13 : decode cL_reelOf 13 = .ok (.iconst 1, 1) := by decide +kernel
theorem dL_reelOf_14 : decode cL_reelOf 14 = .ok (.ireturn, 1) := by decide +kernel
theorem dL_reelOf_15 : decode cL_reelOf 15 = .ok (.iconst 0, 1) := by decide +kernel
theorem dL_reelOf_16 : decode cL_reelOf 16 = .ok (.ireturn, 1) := by decide +kernel
theorem dL_setLimit_0 : decode cL_setLimit 0 = .ok (.aload_n 2, 1) := by decide +kernel
theorem dL_setLimit_1 : decode cL_setLimit 1 = .ok (.iconst 0, 1) := by decide +kernel
theorem dL_setLimit_2 : decode cL_setLimit 2 = .ok (.aload_n 0, 1) := by decide +kernel
theorem dL_setLimit_3 : decode cL_setLimit 3 = .ok (.iload_n 1, 1) := by decide +kernel
theorem dL_setLimit_4 : decode cL_setLimit 4 = .ok (.invokevirtual 60, 3) := by decide +kernel
theorem dL_setLimit_7 : decode cL_setLimit 7 = .ok (.i2l, 1) := by decide +kernel
theorem dL_setLimit_8 : decode cL_setLimit 8 = .ok (.lastore, 1) := by decide +kernel
theorem dL_setLimit_9 : decode cL_setLimit 9 = .ok (.goto 9, 3) := by decide +kernel
theorem dL_setLimit_12 : decode cL_setLimit 12 = .ok (.astore_n 3, 1) := by decide +kernel
theorem dL_setLimit_13 : decode cL_setLimit 13 = .ok (.iconst 1, 1) := by decide +kernel
theorem dL_setLimit_14 : decode cL_setLimit 14 = .ok (.ireturn, 1) := by decide +kernel
theorem dL_setLimit_15 : decode cL_setLimit 15 = .ok (.astore_n 3, 1) := by decide +kernel
theorem dL_setLimit_16 : decode cL_setLimit 16 = .ok (.iconst 2, 1) := by decide +kernel
theorem dL_setLimit_17 : decode cL_setLimit 17 = .ok (.ireturn, 1) := by decide +kernel
theorem dL_setLimit_18 : decode cL_setLimit 18 = .ok (.iconst 0, 1) := by decide +kernel
theorem dL_setLimit_19 : decode cL_setLimit 19 = .ok (.ireturn, 1) := by decide +kernel
theorem dL_run_0 : decode cL_run 0 = .ok (.aload_n 2, 1) := by decide +kernel
theorem dL_run_1 : decode cL_run 1 = .ok (.iconst 0, 1) := by decide +kernel
theorem dL_run_2 : decode cL_run 2 = .ok (.aload_n 0, 1) := by decide +kernel
theorem dL_run_3 : decode cL_run 3 = .ok (.iload_n 1, 1) := by decide +kernel
theorem dL_run_4 : decode cL_run 4 = .ok (.invokevirtual 63, 3) := by decide +kernel
theorem dL_run_7 : decode cL_run 7 = .ok (.i2l, 1) := by decide +kernel
theorem dL_run_8 : decode cL_run 8 = .ok (.lastore, 1) := by decide +kernel
theorem dL_run_9 : decode cL_run 9 = .ok (.goto 9, 3) := by decide +kernel
theorem dL_run_12 : decode cL_run 12 = .ok (.astore_n 3, 1) := by decide +kernel
theorem dL_run_13 : decode cL_run 13 = .ok (.iconst 1, 1) := by decide +kernel
theorem dL_run_14 : decode cL_run 14 = .ok (.ireturn, 1) := by decide +kernel
theorem dL_run_15 : decode cL_run 15 = .ok (.astore_n 3, 1) := by decide +kernel
theorem dL_run_16 : decode cL_run 16 = .ok (.iconst 2, 1) := by decide +kernel
theorem dL_run_17 : decode cL_run 17 = .ok (.ireturn, 1) := by decide +kernel
theorem dL_run_18 : decode cL_run 18 = .ok (.iconst 0, 1) := by decide +kernel
theorem dL_run_19 : decode cL_run 19 = .ok (.ireturn, 1) := by decide +kernel
theorem dL_wear_0 : decode cL_wear 0 = .ok (.aload_n 3, 1) := by decide +kernel
theorem dL_wear_1 : decode cL_wear 1 = .ok (.iconst 0, 1) := by decide +kernel
theorem dL_wear_2 : decode cL_wear 2 = .ok (.aload_n 0, 1) := by decide +kernel
theorem dL_wear_3 : decode cL_wear 3 = .ok (.iload_n 1, 1) := by decide +kernel
theorem dL_wear_4 : decode cL_wear 4 = .ok (.iload_n 2, 1) := by decide +kernel
theorem dL_wear_5 : decode cL_wear 5 = .ok (.invokevirtual 66, 3) := by decide +kernel
theorem dL_wear_8 : decode cL_wear 8 = .ok (.i2l, 1) := by decide +kernel
theorem dL_wear_9 : decode cL_wear 9 = .ok (.lastore, 1) := by decide +kernel
theorem dL_wear_10 : decode cL_wear 10 = .ok (.goto 7, 3) := by decide +kernel
theorem dL_wear_13 : decode cL_wear 13 = .ok (.astore 4, 2) := by decide +kernel
theorem dL_wear_15 : decode cL_wear 15 = .ok (.iconst 1, 1) := by decide +kernel
theorem dL_wear_16 : decode cL_wear 16 = .ok (.ireturn, 1) := by decide +kernel
theorem dL_wear_17 : decode cL_wear 17 = .ok (.iconst 0, 1) := by decide +kernel
theorem dL_wear_18 : decode cL_wear 18 = .ok (.ireturn, 1) := by decide +kernel
theorem dL_mend_0 : decode cL_mend 0 = .ok (.aload_n 3, 1) := by decide +kernel
theorem dL_mend_1 : decode cL_mend 1 = .ok (.iconst 0, 1) := by decide +kernel
theorem dL_mend_2 : decode cL_mend 2 = .ok (.aload_n 0, 1) := by decide +kernel
theorem dL_mend_3 : decode cL_mend 3 = .ok (.iload_n 1, 1) := by decide +kernel
theorem dL_mend_4 : decode cL_mend 4 = .ok (.iload_n 2, 1) := by decide +kernel
theorem dL_mend_5 : decode cL_mend 5 = .ok (.invokevirtual 69, 3) := by decide +kernel
theorem dL_mend_8 : decode cL_mend 8 = .ok (.i2l, 1) := by decide +kernel
theorem dL_mend_9 : decode cL_mend 9 = .ok (.lastore, 1) := by decide +kernel
theorem dL_mend_10 : decode cL_mend 10 = .ok (.goto 11, 3) := by decide +kernel
theorem dL_mend_13 : decode cL_mend 13 = .ok (.astore 4, 2) := by decide +kernel
theorem dL_mend_15 : decode cL_mend 15 = .ok (.iconst 1, 1) := by decide +kernel
theorem dL_mend_16 : decode cL_mend 16 = .ok (.ireturn, 1) := by decide +kernel
theorem dL_mend_17 : decode cL_mend 17 = .ok (.astore 4, 2) := by decide +kernel
theorem dL_mend_19 : decode cL_mend 19 = .ok (.iconst 2, 1) := by decide +kernel
theorem dL_mend_20 : decode cL_mend 20 = .ok (.ireturn, 1) := by decide +kernel
theorem dL_mend_21 : decode cL_mend 21 = .ok (.iconst 0, 1) := by decide +kernel
theorem dL_mend_22 : decode cL_mend 22 = .ok (.ireturn, 1) := by decide +kernel
theorem dL_scan_0 : decode cL_scan 0 = .ok (.aload_n 3, 1) := by decide +kernel
theorem dL_scan_1 : decode cL_scan 1 = .ok (.iconst 0, 1) := by decide +kernel
theorem dL_scan_2 : decode cL_scan 2 = .ok (.aload_n 0, 1) := by decide +kernel
theorem dL_scan_3 : decode cL_scan 3 = .ok (.iload_n 1, 1) := by decide +kernel
theorem dL_scan_4 : decode cL_scan 4 = .ok (.iload_n 2, 1) := by decide +kernel
theorem dL_scan_5 : decode cL_scan 5 = .ok (.invokevirtual 72, 3) := by decide +kernel
theorem dL_scan_8 : decode cL_scan 8 = .ok (.i2l, 1) := by decide +kernel
theorem dL_scan_9 : decode cL_scan 9 = .ok (.lastore, 1) := by decide +kernel
theorem dL_scan_10 : decode cL_scan 10 = .ok (.goto 15, 3) := by decide +kernel
theorem dL_scan_13 : decode cL_scan 13 = .ok (.astore 4, 2) := by decide +kernel
theorem dL_scan_15 : decode cL_scan 15 = .ok (.iconst 1, 1) := by decide +kernel
theorem dL_scan_16 : decode cL_scan 16 = .ok (.ireturn, 1) := by decide +kernel
theorem dL_scan_17 : decode cL_scan 17 = .ok (.astore 4, 2) := by decide +kernel
theorem dL_scan_19 : decode cL_scan 19 = .ok (.iconst 2, 1) := by decide +kernel
theorem dL_scan_20 : decode cL_scan 20 = .ok (.ireturn, 1) := by decide +kernel
theorem dL_scan_21 : decode cL_scan 21 = .ok (.astore 4, 2) := by decide +kernel
theorem dL_scan_23 : decode cL_scan 23 = .ok (.iconst 3, 1) := by decide +kernel
theorem dL_scan_24 : decode cL_scan 24 = .ok (.ireturn, 1) := by decide +kernel
theorem dL_scan_25 : decode cL_scan 25 = .ok (.iconst 0, 1) := by decide +kernel
theorem dL_scan_26 : decode cL_scan 26 = .ok (.ireturn, 1) := by decide +kernel
theorem dL_scanned_0 : decode cL_scanned 0 = .ok (.aload_n 2, 1) := by decide +kernel
theorem dL_scanned_1 : decode cL_scanned 1 = .ok (.iconst 0, 1) := by decide +kernel
theorem dL_scanned_2 : decode cL_scanned 2 = .ok (.aload_n 0, 1) := by decide +kernel
theorem dL_scanned_3 : decode cL_scanned 3 = .ok (.iload_n 1, 1) := by decide +kernel
theorem dL_scanned_4 : decode cL_scanned 4 = .ok (.invokevirtual 75, 3) := by decide +kernel
theorem dL_scanned_7 : decode cL_scanned 7 = .ok (.i2l, 1) := by decide +kernel
theorem dL_scanned_8 : decode cL_scanned 8 = .ok (.lastore, 1) := by decide +kernel
theorem dL_scanned_9 : decode cL_scanned 9 = .ok (.goto 6, 3) := by decide +kernel
theorem dL_scanned_12 : decode cL_scanned 12 = .ok (.astore_n 3, 1) := by decide +kernel
theorem dL_scanned_13 : decode cL_scanned 13 = .ok (.iconst 1, 1) := by decide +kernel
theorem dL_scanned_14 : decode cL_scanned 14 = .ok (.ireturn, 1) := by decide +kernel
theorem dL_scanned_15 : decode cL_scanned 15 = .ok (.iconst 0, 1) := by decide +kernel
theorem dL_scanned_16 : decode cL_scanned 16 = .ok (.ireturn, 1) := by decide +kernel
theorem dL_missed_0 : decode cL_missed 0 = .ok (.aload_n 2, 1) := by decide +kernel
theorem dL_missed_1 : decode cL_missed 1 = .ok (.iconst 0, 1) := by decide +kernel
theorem dL_missed_2 : decode cL_missed 2 = .ok (.aload_n 0, 1) := by decide +kernel
theorem dL_missed_3 : decode cL_missed 3 = .ok (.iload_n 1, 1) := by decide +kernel
theorem dL_missed_4 : decode cL_missed 4 = .ok (.invokevirtual 78, 3) := by decide +kernel
theorem dL_missed_7 : decode cL_missed 7 = .ok (.i2l, 1) := by decide +kernel
theorem dL_missed_8 : decode cL_missed 8 = .ok (.lastore, 1) := by decide +kernel
theorem dL_missed_9 : decode cL_missed 9 = .ok (.goto 6, 3) := by decide +kernel
theorem dL_missed_12 : decode cL_missed 12 = .ok (.astore_n 3, 1) := by decide +kernel
theorem dL_missed_13 : decode cL_missed 13 = .ok (.iconst 1, 1) := by decide +kernel
theorem dL_missed_14 : decode cL_missed 14 = .ok (.ireturn, 1) := by decide +kernel
theorem dL_missed_15 : decode cL_missed 15 = .ok (.iconst 0, 1) := by decide +kernel
theorem dL_missed_16 : decode cL_missed 16 = .ok (.ireturn, 1) := by decide +kernel
theorem dL_grade_0 : decode cL_grade 0 = .ok (.aload_n 3, 1) := by decide +kernel
theorem dL_grade_1 : decode cL_grade 1 = .ok (.iconst 0, 1) := by decide +kernel
theorem dL_grade_2 : decode cL_grade 2 = .ok (.aload_n 0, 1) := by decide +kernel
theorem dL_grade_3 : decode cL_grade 3 = .ok (.iload_n 1, 1) := by decide +kernel
theorem dL_grade_4 : decode cL_grade 4 = .ok (.iload_n 2, 1) := by decide +kernel
theorem dL_grade_5 : decode cL_grade 5 = .ok (.invokevirtual 81, 3) := by decide +kernel
theorem dL_grade_8 : decode cL_grade 8 = .ok (.i2l, 1) := by decide +kernel
theorem dL_grade_9 : decode cL_grade 9 = .ok (.lastore, 1) := by decide +kernel
theorem dL_grade_10 : decode cL_grade 10 = .ok (.goto 15, 3) := by decide +kernel
theorem dL_grade_13 : decode cL_grade 13 = .ok (.astore 4, 2) := by decide +kernel
theorem dL_grade_15 : decode cL_grade 15 = .ok (.iconst 1, 1) := by decide +kernel
theorem dL_grade_16 : decode cL_grade 16 = .ok (.ireturn, 1) := by decide +kernel
theorem dL_grade_17 : decode cL_grade 17 = .ok (.astore 4, 2) := by decide +kernel
theorem dL_grade_19 : decode cL_grade 19 = .ok (.iconst 2, 1) := by decide +kernel
theorem dL_grade_20 : decode cL_grade 20 = .ok (.ireturn, 1) := by decide +kernel
theorem dL_grade_21 : decode cL_grade 21 = .ok (.astore 4, 2) := by decide +kernel
theorem dL_grade_23 : decode cL_grade 23 = .ok (.iconst 3, 1) := by decide +kernel
theorem dL_grade_24 : decode cL_grade 24 = .ok (.ireturn, 1) := by decide +kernel
theorem dL_grade_25 : decode cL_grade 25 = .ok (.iconst 0, 1) := by decide +kernel
theorem dL_grade_26 : decode cL_grade 26 = .ok (.ireturn, 1) := by decide +kernel
theorem dL_passOn_0 : decode cL_passOn 0 = .ok (.aload_n 2, 1) := by decide +kernel
theorem dL_passOn_1 : decode cL_passOn 1 = .ok (.iconst 0, 1) := by decide +kernel
theorem dL_passOn_2 : decode cL_passOn 2 = .ok (.aload_n 0, 1) := by decide +kernel
theorem dL_passOn_3 : decode cL_passOn 3 = .ok (.iload_n 1, 1) := by decide +kernel
theorem dL_passOn_4 : decode cL_passOn 4 = .ok (.invokevirtual 84, 3) := by decide +kernel
theorem dL_passOn_7 : decode cL_passOn 7 = .ok (.i2l, 1) := by decide +kernel
theorem dL_passOn_8 : decode cL_passOn 8 = .ok (.lastore, 1) := by decide +kernel
theorem dL_passOn_9 : decode cL_passOn 9 = .ok (.goto 9, 3) := by decide +kernel
theorem dL_passOn_12 : decode cL_passOn 12 = .ok (.astore_n 3, 1) := by decide +kernel
theorem dL_passOn_13 : decode cL_passOn 13 = .ok (.iconst 1, 1) := by decide +kernel
theorem dL_passOn_14 : decode cL_passOn 14 = .ok (.ireturn, 1) := by decide +kernel
theorem dL_passOn_15 : decode cL_passOn 15 = .ok (.astore_n 3, 1) := by decide +kernel
theorem dL_passOn_16 : decode cL_passOn 16 = .ok (.iconst 2, 1) := by decide +kernel
theorem dL_passOn_17 : decode cL_passOn 17 = .ok (.ireturn, 1) := by decide +kernel
theorem dL_passOn_18 : decode cL_passOn 18 = .ok (.iconst 0, 1) := by decide +kernel
theorem dL_passOn_19 : decode cL_passOn 19 = .ok (.ireturn, 1) := by decide +kernel
theorem dL_gradeOf_0 : decode cL_gradeOf 0 = .ok (.aload_n 2, 1) := by decide +kernel
theorem dL_gradeOf_1 : decode cL_gradeOf 1 = .ok (.iconst 0, 1) := by decide +kernel
theorem dL_gradeOf_2 : decode cL_gradeOf 2 = .ok (.aload_n 0, 1) := by decide +kernel
theorem dL_gradeOf_3 : decode cL_gradeOf 3 = .ok (.iload_n 1, 1) := by decide +kernel
theorem dL_gradeOf_4 : decode cL_gradeOf 4 = .ok (.invokevirtual 87, 3) := by decide +kernel
theorem dL_gradeOf_7 : decode cL_gradeOf 7 = .ok (.i2l, 1) := by decide +kernel
theorem dL_gradeOf_8 : decode cL_gradeOf 8 = .ok (.lastore, 1) := by decide +kernel
theorem dL_gradeOf_9 : decode cL_gradeOf 9 = .ok (.goto 6, 3) := by decide +kernel
theorem dL_gradeOf_12 : decode cL_gradeOf 12 = .ok (.astore_n 3, 1) := by decide +kernel
theorem dL_gradeOf_13 : decode cL_gradeOf 13 = .ok (.iconst 1, 1) := by decide +kernel
theorem dL_gradeOf_14 : decode cL_gradeOf 14 = .ok (.ireturn, 1) := by decide +kernel
theorem dL_gradeOf_15 : decode cL_gradeOf 15 = .ok (.iconst 0, 1) := by decide +kernel
theorem dL_gradeOf_16 : decode cL_gradeOf 16 = .ok (.ireturn, 1) := by decide +kernel
theorem dL_gradeFrom_0 : decode cL_gradeFrom 0 = .ok (.aload_n 2, 1) := by decide +kernel
theorem dL_gradeFrom_1 : decode cL_gradeFrom 1 = .ok (.iconst 0, 1) := by decide +kernel
theorem dL_gradeFrom_2 : decode cL_gradeFrom 2 = .ok (.aload_n 0, 1) := by decide +kernel
theorem dL_gradeFrom_3 : decode cL_gradeFrom 3 = .ok (.iload_n 1, 1) := by decide +kernel
theorem dL_gradeFrom_4 : decode cL_gradeFrom 4 = .ok (.invokevirtual 90, 3) := by decide +kernel
theorem dL_gradeFrom_7 : decode cL_gradeFrom 7 = .ok (.i2l, 1) := by decide +kernel
theorem dL_gradeFrom_8 : decode cL_gradeFrom 8 = .ok (.lastore, 1) := by decide +kernel
theorem dL_gradeFrom_9 : decode cL_gradeFrom 9 = .ok (.goto 6, 3) := by decide +kernel
theorem dL_gradeFrom_12 : decode cL_gradeFrom 12 = .ok (.astore_n 3, 1) := by decide +kernel
theorem dL_gradeFrom_13 : decode cL_gradeFrom 13 = .ok (.iconst 1, 1) := by decide +kernel
theorem dL_gradeFrom_14 : decode cL_gradeFrom 14 = .ok (.ireturn, 1) := by decide +kernel
theorem dL_gradeFrom_15 : decode cL_gradeFrom 15 = .ok (.iconst 0, 1) := by decide +kernel
theorem dL_gradeFrom_16 : decode cL_gradeFrom 16 = .ok (.ireturn, 1) := by decide +kernel
theorem dL_addVersion_0 : decode cL_addVersion 0 = .ok (.aload_n 3, 1) := by decide +kernel
theorem dL_addVersion_1 : decode cL_addVersion 1 = .ok (.iconst 0, 1) := by decide +kernel
theorem dL_addVersion_2 : decode cL_addVersion 2 = .ok (.aload_n 0, 1) := by decide +kernel
theorem dL_addVersion_3 : decode cL_addVersion 3 = .ok (.iload_n 1, 1) := by decide +kernel
theorem dL_addVersion_4 : decode cL_addVersion 4 = .ok (.iload_n 2, 1) := by decide +kernel
theorem dL_addVersion_5 : decode cL_addVersion 5 = .ok (.invokevirtual 93, 3) := by decide +kernel
theorem dL_addVersion_8 : decode cL_addVersion 8 = .ok (.i2l, 1) := by decide +kernel
theorem dL_addVersion_9 : decode cL_addVersion 9 = .ok (.lastore, 1) := by decide +kernel
theorem dL_addVersion_10 : decode cL_addVersion 10 = .ok (.goto 19, 3) := by decide +kernel
theorem dL_addVersion_13 : decode cL_addVersion 13 = .ok (.astore 4, 2) := by decide +kernel
theorem dL_addVersion_15 : decode cL_addVersion 15 = .ok (.iconst 1, 1) := by decide +kernel
theorem dL_addVersion_16 : decode cL_addVersion 16 = .ok (.ireturn, 1) := by decide +kernel
theorem dL_addVersion_17 : decode cL_addVersion 17 = .ok (.astore 4, 2) := by decide +kernel
theorem dL_addVersion_19 : decode cL_addVersion 19 = .ok (.iconst 2, 1) := by decide +kernel
theorem dL_addVersion_20 : decode cL_addVersion 20 = .ok (.ireturn, 1) := by decide +kernel
theorem dL_addVersion_21 : decode cL_addVersion 21 = .ok (.astore 4, 2) := by decide +kernel
theorem dL_addVersion_23 : decode cL_addVersion 23 = .ok (.iconst 3, 1) := by decide +kernel
theorem dL_addVersion_24 : decode cL_addVersion 24 = .ok (.ireturn, 1) := by decide +kernel
theorem dL_addVersion_25 : decode cL_addVersion 25 = .ok (.astore 4, 2) := by decide +kernel
theorem dL_addVersion_27 : decode cL_addVersion 27 = .ok (.iconst 4, 1) := by decide +kernel
theorem dL_addVersion_28 : decode cL_addVersion 28 = .ok (.ireturn, 1) := by decide +kernel
theorem dL_addVersion_29 : decode cL_addVersion 29 = .ok (.iconst 0, 1) := by decide +kernel
theorem dL_addVersion_30 : decode cL_addVersion 30 = .ok (.ireturn, 1) := by decide +kernel
theorem dL_leaveOut_0 : decode cL_leaveOut 0 = .ok (.aload 5, 2) := by decide +kernel
theorem dL_leaveOut_2 : decode cL_leaveOut 2 = .ok (.iconst 0, 1) := by decide +kernel
theorem dL_leaveOut_3 : decode cL_leaveOut 3 = .ok (.aload_n 0, 1) := by decide +kernel
theorem dL_leaveOut_4 : decode cL_leaveOut 4 = .ok (.iload_n 1, 1) := by decide +kernel
theorem dL_leaveOut_5 : decode cL_leaveOut 5 = .ok (.iload_n 2, 1) := by decide +kernel
theorem dL_leaveOut_6 : decode cL_leaveOut 6 = .ok (.iload_n 3, 1) := by decide +kernel
theorem dL_leaveOut_7 : decode cL_leaveOut 7 = .ok (.iload 4, 2) := by decide +kernel
theorem dL_leaveOut_9 : decode cL_leaveOut 9 = .ok (.invokevirtual 96, 3) := by decide +kernel
theorem dL_leaveOut_12 : decode cL_leaveOut 12 = .ok (.i2l, 1) := by decide +kernel
theorem dL_leaveOut_13 : decode cL_leaveOut 13 = .ok (.lastore, 1) := by decide +kernel
theorem dL_leaveOut_14 : decode cL_leaveOut 14 = .ok (.goto 11, 3) := by decide +kernel
theorem dL_leaveOut_17 : decode cL_leaveOut 17 = .ok (.astore 6, 2) := by decide +kernel
theorem dL_leaveOut_19 : decode cL_leaveOut 19 = .ok (.iconst 1, 1) := by decide +kernel
theorem dL_leaveOut_20 : decode cL_leaveOut 20 = .ok (.ireturn, 1) := by decide +kernel
theorem dL_leaveOut_21 : decode cL_leaveOut 21 = .ok (.astore 6, 2) := by decide +kernel
theorem dL_leaveOut_23 : decode cL_leaveOut 23 = .ok (.iconst 2, 1) := by decide +kernel
theorem dL_leaveOut_24 : decode cL_leaveOut 24 = .ok (.ireturn, 1) := by decide +kernel
theorem dL_leaveOut_25 : decode cL_leaveOut 25 = .ok (.iconst 0, 1) := by decide +kernel
theorem dL_leaveOut_26 : decode cL_leaveOut 26 = .ok (.ireturn, 1) := by decide +kernel
theorem dL_frames_0 : decode cL_frames 0 = .ok (.aload_n 2, 1) := by decide +kernel
theorem dL_frames_1 : decode cL_frames 1 = .ok (.iconst 0, 1) := by decide +kernel
theorem dL_frames_2 : decode cL_frames 2 = .ok (.aload_n 0, 1) := by decide +kernel
theorem dL_frames_3 : decode cL_frames 3 = .ok (.iload_n 1, 1) := by decide +kernel
theorem dL_frames_4 : decode cL_frames 4 = .ok (.invokevirtual 100, 3) := by decide +kernel
theorem dL_frames_7 : decode cL_frames 7 = .ok (.i2l, 1) := by decide +kernel
theorem dL_frames_8 : decode cL_frames 8 = .ok (.lastore, 1) := by decide +kernel
theorem dL_frames_9 : decode cL_frames 9 = .ok (.goto 6, 3) := by decide +kernel
theorem dL_frames_12 : decode cL_frames 12 = .ok (.astore_n 3, 1) := by decide +kernel
theorem dL_frames_13 : decode cL_frames 13 = .ok (.iconst 1, 1) := by decide +kernel
theorem dL_frames_14 : decode cL_frames 14 = .ok (.ireturn, 1) := by decide +kernel
theorem dL_frames_15 : decode cL_frames 15 = .ok (.iconst 0, 1) := by decide +kernel
theorem dL_frames_16 : decode cL_frames 16 = .ok (.ireturn, 1) := by decide +kernel
theorem dL_lend_0 : decode cL_lend 0 = .ok (.aload 5, 2) := by decide +kernel
theorem dL_lend_2 : decode cL_lend 2 = .ok (.iconst 0, 1) := by decide +kernel
theorem dL_lend_3 : decode cL_lend 3 = .ok (.aload_n 0, 1) := by decide +kernel
theorem dL_lend_4 : decode cL_lend 4 = .ok (.iload_n 1, 1) := by decide +kernel
theorem dL_lend_5 : decode cL_lend 5 = .ok (.iload_n 2, 1) := by decide +kernel
theorem dL_lend_6 : decode cL_lend 6 = .ok (.iload_n 3, 1) := by decide +kernel
theorem dL_lend_7 : decode cL_lend 7 = .ok (.iload 4, 2) := by decide +kernel
theorem dL_lend_9 : decode cL_lend 9 = .ok (.invokevirtual 103, 3) := by decide +kernel
theorem dL_lend_12 : decode cL_lend 12 = .ok (.i2l, 1) := by decide +kernel
theorem dL_lend_13 : decode cL_lend 13 = .ok (.lastore, 1) := by decide +kernel
theorem dL_lend_14 : decode cL_lend 14 = .ok (.goto 19, 3) := by decide +kernel
theorem dL_lend_17 : decode cL_lend 17 = .ok (.astore 6, 2) := by decide +kernel
theorem dL_lend_19 : decode cL_lend 19 = .ok (.iconst 1, 1) := by decide +kernel
theorem dL_lend_20 : decode cL_lend 20 = .ok (.ireturn, 1) := by decide +kernel
theorem dL_lend_21 : decode cL_lend 21 = .ok (.astore 6, 2) := by decide +kernel
theorem dL_lend_23 : decode cL_lend 23 = .ok (.iconst 2, 1) := by decide +kernel
theorem dL_lend_24 : decode cL_lend 24 = .ok (.ireturn, 1) := by decide +kernel
theorem dL_lend_25 : decode cL_lend 25 = .ok (.astore 6, 2) := by decide +kernel
theorem dL_lend_27 : decode cL_lend 27 = .ok (.iconst 3, 1) := by decide +kernel
theorem dL_lend_28 : decode cL_lend 28 = .ok (.ireturn, 1) := by decide +kernel
theorem dL_lend_29 : decode cL_lend 29 = .ok (.astore 6, 2) := by decide +kernel
theorem dL_lend_31 : decode cL_lend 31 = .ok (.iconst 4, 1) := by decide +kernel
theorem dL_lend_32 : decode cL_lend 32 = .ok (.ireturn, 1) := by decide +kernel
theorem dL_lend_33 : decode cL_lend 33 = .ok (.iconst 0, 1) := by decide +kernel
theorem dL_lend_34 : decode cL_lend 34 = .ok (.ireturn, 1) := by decide +kernel
theorem dL_show_0 : decode cL_show 0 = .ok (.aload_n 2, 1) := by decide +kernel
theorem dL_show_1 : decode cL_show 1 = .ok (.iconst 0, 1) := by decide +kernel
theorem dL_show_2 : decode cL_show 2 = .ok (.aload_n 0, 1) := by decide +kernel
theorem dL_show_3 : decode cL_show 3 = .ok (.iload_n 1, 1) := by decide +kernel
theorem dL_show_4 : decode cL_show 4 = .ok (.invokevirtual 106, 3) := by decide +kernel
theorem dL_show_7 : decode cL_show 7 = .ok (.i2l, 1) := by decide +kernel
theorem dL_show_8 : decode cL_show 8 = .ok (.lastore, 1) := by decide +kernel
theorem dL_show_9 : decode cL_show 9 = .ok (.goto 9, 3) := by decide +kernel
theorem dL_show_12 : decode cL_show 12 = .ok (.astore_n 3, 1) := by decide +kernel
theorem dL_show_13 : decode cL_show 13 = .ok (.iconst 1, 1) := by decide +kernel
theorem dL_show_14 : decode cL_show 14 = .ok (.ireturn, 1) := by decide +kernel
theorem dL_show_15 : decode cL_show 15 = .ok (.astore_n 3, 1) := by decide +kernel
theorem dL_show_16 : decode cL_show 16 = .ok (.iconst 2, 1) := by decide +kernel
theorem dL_show_17 : decode cL_show 17 = .ok (.ireturn, 1) := by decide +kernel
theorem dL_show_18 : decode cL_show 18 = .ok (.iconst 0, 1) := by decide +kernel
theorem dL_show_19 : decode cL_show 19 = .ok (.ireturn, 1) := by decide +kernel
theorem dL_giveBack_0 : decode cL_giveBack 0 = .ok (.aload_n 2, 1) := by decide +kernel
theorem dL_giveBack_1 : decode cL_giveBack 1 = .ok (.iconst 0, 1) := by decide +kernel
theorem dL_giveBack_2 : decode cL_giveBack 2 = .ok (.aload_n 0, 1) := by decide +kernel
theorem dL_giveBack_3 : decode cL_giveBack 3 = .ok (.iload_n 1, 1) := by decide +kernel
theorem dL_giveBack_4 : decode cL_giveBack 4 = .ok (.invokevirtual 109, 3) := by decide +kernel
theorem dL_giveBack_7 : decode cL_giveBack 7 = .ok (.i2l, 1) := by decide +kernel
theorem dL_giveBack_8 : decode cL_giveBack 8 = .ok (.lastore, 1) := by decide +kernel
theorem dL_giveBack_9 : decode cL_giveBack 9 = .ok (.goto 9, 3) := by decide +kernel
theorem dL_giveBack_12 : decode cL_giveBack 12 = .ok (.astore_n 3, 1) := by decide +kernel
theorem dL_giveBack_13 : decode cL_giveBack 13 = .ok (.iconst 1, 1) := by decide +kernel
theorem dL_giveBack_14 : decode cL_giveBack 14 = .ok (.ireturn, 1) := by decide +kernel
theorem dL_giveBack_15 : decode cL_giveBack 15 = .ok (.astore_n 3, 1) := by decide +kernel
theorem dL_giveBack_16 : decode cL_giveBack 16 = .ok (.iconst 2, 1) := by decide +kernel
theorem dL_giveBack_17 : decode cL_giveBack 17 = .ok (.ireturn, 1) := by decide +kernel
theorem dL_giveBack_18 : decode cL_giveBack 18 = .ok (.iconst 0, 1) := by decide +kernel
theorem dL_giveBack_19 : decode cL_giveBack 19 = .ok (.ireturn, 1) := by decide +kernel
theorem dL_advance_0 : decode cL_advance 0 = .ok (.aload_n 2, 1) := by decide +kernel
theorem dL_advance_1 : decode cL_advance 1 = .ok (.iconst 0, 1) := by decide +kernel
theorem dL_advance_2 : decode cL_advance 2 = .ok (.aload_n 0, 1) := by decide +kernel
theorem dL_advance_3 : decode cL_advance 3 = .ok (.iload_n 1, 1) := by decide +kernel
theorem dL_advance_4 : decode cL_advance 4 = .ok (.invokevirtual 112, 3) := by decide +kernel
theorem dL_advance_7 : decode cL_advance 7 = .ok (.i2l, 1) := by decide +kernel
theorem dL_advance_8 : decode cL_advance 8 = .ok (.lastore, 1) := by decide +kernel
theorem dL_advance_9 : decode cL_advance 9 = .ok (.goto 6, 3) := by decide +kernel
theorem dL_advance_12 : decode cL_advance 12 = .ok (.astore_n 3, 1) := by decide +kernel
theorem dL_advance_13 : decode cL_advance 13 = .ok (.iconst 1, 1) := by decide +kernel
theorem dL_advance_14 : decode cL_advance 14 = .ok (.ireturn, 1) := by decide +kernel
theorem dL_advance_15 : decode cL_advance 15 = .ok (.iconst 0, 1) := by decide +kernel
theorem dL_advance_16 : decode cL_advance 16 = .ok (.ireturn, 1) := by decide +kernel
theorem dL_keptShare_0 : decode cL_keptShare 0 = .ok (.aload_n 1, 1) := by decide +kernel
theorem dL_keptShare_1 : decode cL_keptShare 1 = .ok (.iconst 0, 1) := by decide +kernel
theorem dL_keptShare_2 : decode cL_keptShare 2 = .ok (.aload_n 0, 1) := by decide +kernel
theorem dL_keptShare_3 : decode cL_keptShare 3 = .ok (.invokevirtual 115, 3) := by decide +kernel
theorem dL_keptShare_6 : decode cL_keptShare 6 = .ok (.f2d, 1) := by decide +kernel
theorem dL_keptShare_7 : decode cL_keptShare 7 = .ok (.dastore, 1) := by decide +kernel
theorem dL_keptShare_8 : decode cL_keptShare 8 = .ok (.goto 6, 3) := by decide +kernel
theorem dL_keptShare_11 : decode cL_keptShare 11 = .ok (.astore_n 2, 1) := by decide +kernel
theorem dL_keptShare_12 : decode cL_keptShare 12 = .ok (.iconst 1, 1) := by decide +kernel
theorem dL_keptShare_13 : decode cL_keptShare 13 = .ok (.ireturn, 1) := by decide +kernel
theorem dL_keptShare_14 : decode cL_keptShare 14 = .ok (.iconst 0, 1) := by decide +kernel
theorem dL_keptShare_15 : decode cL_keptShare 15 = .ok (.ireturn, 1) := by decide +kernel
theorem dL_meanWear_0 : decode cL_meanWear 0 = .ok (.aload_n 1, 1) := by decide +kernel
theorem dL_meanWear_1 : decode cL_meanWear 1 = .ok (.iconst 0, 1) := by decide +kernel
theorem dL_meanWear_2 : decode cL_meanWear 2 = .ok (.aload_n 0, 1) := by decide +kernel
theorem dL_meanWear_3 : decode cL_meanWear 3 = .ok (.invokevirtual 121, 3) := by decide +kernel
theorem dL_meanWear_6 : decode cL_meanWear 6 = .ok (.dastore, 1) := by decide +kernel
theorem dL_meanWear_7 : decode cL_meanWear 7 = .ok (.goto 6, 3) := by decide +kernel
theorem dL_meanWear_10 : decode cL_meanWear 10 = .ok (.astore_n 2, 1) := by decide +kernel
theorem dL_meanWear_11 : decode cL_meanWear 11 = .ok (.iconst 1, 1) := by decide +kernel
theorem dL_meanWear_12 : decode cL_meanWear 12 = .ok (.ireturn, 1) := by decide +kernel
theorem dL_meanWear_13 : decode cL_meanWear 13 = .ok (.iconst 0, 1) := by decide +kernel
theorem dL_meanWear_14 : decode cL_meanWear 14 = .ok (.ireturn, 1) := by decide +kernel
