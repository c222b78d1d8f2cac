theorem dX5_init_0 : decode cX5_init 0 = .ok (.aload_n 0, 1) := by decide +kernel
theorem dX5_init_1 : decode cX5_init 1 = .ok (.invokespecial 3, 3) := by decide +kernel
theorem dX5_init_4 : decode cX5_init 4 = .ok (.aload_n 0, 1) := by decide +kernel
theorem dX5_init_5 : decode cX5_init 5 = .ok (.new 9, 3) := by decide +kernel
theorem dX5_init_8 : decode cX5_init 8 = .ok (.dup, 1) := by decide +kernel
theorem dX5_init_9 : decode cX5_init 9 = .ok (.invokespecial 11, 3) := by decide +kernel
theorem dX5_init_12 : decode cX5_init 12 = .ok (.putfield 12, 3) := by decide +kernel
theorem dX5_init_15 : decode cX5_init 15 = .ok (.aload_n 0, 1) := by decide +kernel
theorem dX5_init_16 : decode cX5_init 16 = .ok (.new 9, 3) := by decide +kernel
theorem dX5_init_19 : decode cX5_init 19 = .ok (.dup, 1) := by decide +kernel
theorem dX5_init_20 : decode cX5_init 20 = .ok (.invokespecial 11, 3) := by decide +kernel
theorem dX5_init_23 : decode cX5_init 23 = .ok (.putfield 16, 3) := by decide +kernel
theorem dX5_init_26 : decode cX5_init 26 = .ok (.aload_n 0, 1) := by decide +kernel
theorem dX5_init_27 : decode cX5_init 27 = .ok (.new 9, 3) := by decide +kernel
theorem dX5_init_30 : decode cX5_init 30 = .ok (.dup, 1) := by decide +kernel
theorem dX5_init_31 : decode cX5_init 31 = .ok (.invokespecial 11, 3) := by decide +kernel
theorem dX5_init_34 : decode cX5_init 34 = .ok (.putfield 19, 3) := by decide +kernel
theorem dX5_init_37 : decode cX5_init 37 = .ok (.aload_n 0, 1) := by decide +kernel
theorem dX5_init_38 : decode cX5_init 38 = .ok (.new 9, 3) := by decide +kernel
theorem dX5_init_41 : decode cX5_init 41 = .ok (.dup, 1) := by decide +kernel
theorem dX5_init_42 : decode cX5_init 42 = .ok (.invokespecial 11, 3) := by decide +kernel
theorem dX5_init_45 : decode cX5_init 45 = .ok (.putfield 22, 3) := by decide +kernel
theorem dX5_init_48 : decode cX5_init 48 = .ok (.aload_n 0, 1) := by decide +kernel
theorem dX5_init_49 : decode cX5_init 49 = .ok (.new 9, 3) := by decide +kernel
theorem dX5_init_52 : decode cX5_init 52 = .ok (.dup, 1) := by decide +kernel
theorem dX5_init_53 : decode cX5_init 53 = .ok (.invokespecial 11, 3) := by decide +kernel
theorem dX5_init_56 : decode cX5_init 56 = .ok (.putfield 25, 3) := by decide +kernel
theorem dX5_init_59 : decode cX5_init 59 = .ok (.aload_n 0, 1) := by decide +kernel
theorem dX5_init_60 : decode cX5_init 60 = .ok (.bipush 10, 2) := by decide +kernel
theorem dX5_init_62 : decode cX5_init 62 = .ok (.putfield 28, 3) := by decide +kernel
theorem dX5_init_65 : decode cX5_init 65 = .ok (.aload_n 0, 1) := by decide +kernel
theorem dX5_init_66 : decode cX5_init 66 = .ok (.iconst 0, 1) := by decide +kernel
theorem dX5_init_67 : decode cX5_init 67 = .ok (.putfield 32, 3) := by decide +kernel
theorem dX5_init_70 : decode cX5_init 70 = .ok (.aload_n 0, 1) := by decide +kernel
theorem dX5_init_71 : decode cX5_init 71 = .ok (.lconst 0, 1) := by decide +kernel
theorem dX5_init_72 : decode cX5_init 72 = .ok (.putfield 35, 3) := by decide +kernel
theorem dX5_init_75 : decode cX5_init 75 = .ok (.return_, 1) := by decide +kernel
theorem dX5_addFilm_0 : decode cX5_addFilm 0 = .ok (.aload_n 0, 1) := by decide +kernel
theorem dX5_addFilm_1 : decode cX5_addFilm 1 = .ok (.getfield 12, 3) := by decide +kernel
theorem dX5_addFilm_4 : decode cX5_addFilm 4 = .ok (.invokevirtual 39, 3) := by decide +kernel
theorem dX5_addFilm_7 : decode cX5_addFilm 7 = .ok (.bipush 6, 2) := by decide +kernel
theorem dX5_addFilm_9 : decode cX5_addFilm 9 = .ok (.if_icmp .lt 13, 3) := by decide +kernel
theorem dX5_addFilm_12 : decode cX5_addFilm 12 = .ok (.new 43, 3) := by decide +kernel
theorem dX5_addFilm_15 : decode cX5_addFilm 15 = .ok (.dup, 1) := by decide +kernel
theorem dX5_addFilm_16 : decode cX5_addFilm 16 = .ok (.ldc 45, 2) := by decide +kernel
theorem dX5_addFilm_18 : decode cX5_addFilm 18 = .ok (.invokespecial 47, 3) := by decide +kernel
theorem dX5_addFilm_21 : decode cX5_addFilm 21 = .ok (.athrow, 1) := by decide +kernel
theorem dX5_addFilm_22 : decode cX5_addFilm 22 = .ok (.aload_n 0, 1) := by decide +kernel
theorem dX5_addFilm_23 : decode cX5_addFilm 23 = .ok (.getfield 12, 3) := by decide +kernel
theorem dX5_addFilm_26 : decode cX5_addFilm 26 = .ok (.new 50, 3) := by decide +kernel
theorem dX5_addFilm_29 : decode cX5_addFilm 29 = .ok (.dup, 1) := by decide +kernel
theorem dX5_addFilm_30 : decode cX5_addFilm 30 = .ok (.invokespecial 52, 3) := by decide +kernel
theorem dX5_addFilm_33 : decode cX5_addFilm 33 = .ok (.invokevirtual 53, 3) := by decide +kernel
theorem dX5_addFilm_36 : decode cX5_addFilm 36 = .ok (.pop, 1) := by decide +kernel
theorem dX5_addFilm_37 : decode cX5_addFilm 37 = .ok (.aload_n 0, 1) := by decide +kernel
theorem dX5_addFilm_38 : decode cX5_addFilm 38 = .ok (.getfield 12, 3) := by decide +kernel
theorem dX5_addFilm_41 : decode cX5_addFilm 41 = .ok (.invokevirtual 39, 3) := by decide +kernel
theorem dX5_addFilm_44 : decode cX5_addFilm 44 = .ok (.iconst 1, 1) := by decide +kernel
theorem dX5_addFilm_45 : decode cX5_addFilm 45 = .ok (.isub, 1) := by decide +kernel
theorem dX5_addFilm_46 : decode cX5_addFilm 46 = .ok (.ireturn, 1) := by decide +kernel
theorem dX5_addShot_0 : decode cX5_addShot 0 = .ok (.aload_n 0, 1) := by decide +kernel
theorem dX5_addShot_1 : decode cX5_addShot 1 = .ok (.iload_n 1, 1) := by decide +kernel
theorem dX5_addShot_2 : decode cX5_addShot 2 = .ok (.invokevirtual 57, 3) := by decide +kernel
theorem dX5_addShot_5 : decode cX5_addShot 5 = .ok (.astore 4, 2) := by decide +kernel
theorem dX5_addShot_7 : decode cX5_addShot 7 = .ok (.aload_n 0, 1) := by decide +kernel
theorem dX5_addShot_8 : decode cX5_addShot 8 = .ok (.iload_n 2, 1) := by decide +kernel
theorem dX5_addShot_9 : decode cX5_addShot 9 = .ok (.iload_n 3, 1) := by decide +kernel
theorem dX5_addShot_10 : decode cX5_addShot 10 = .ok (.invokevirtual 61, 3) := by decide +kernel
theorem dX5_addShot_13 : decode cX5_addShot 13 = .ok (.aload_n 0, 1) := by decide +kernel
theorem dX5_addShot_14 : decode cX5_addShot 14 = .ok (.getfield 16, 3) := by decide +kernel
theorem dX5_addShot_17 : decode cX5_addShot 17 = .ok (.invokevirtual 39, 3) := by decide +kernel
theorem dX5_addShot_20 : decode cX5_addShot 20 = .ok (.bipush 60, 2) := by decide +kernel
theorem dX5_addShot_22 : decode cX5_addShot 22 = .ok (.if_icmp .lt 13, 3) := by decide +kernel
theorem dX5_addShot_25 : decode cX5_addShot 25 = .ok (.new 43, 3) := by decide +kernel
theorem dX5_addShot_28 : decode cX5_addShot 28 = .ok (.dup, 1) := by decide +kernel
theorem dX5_addShot_29 : decode cX5_addShot 29 = .ok (.ldc 65, 2) := by decide +kernel
theorem dX5_addShot_31 : decode cX5_addShot 31 = .ok (.invokespecial 47, 3) := by decide +kernel
theorem dX5_addShot_34 : decode cX5_addShot 34 = .ok (.athrow, 1) := by decide +kernel
theorem dX5_addShot_35 : decode cX5_addShot 35 = .ok (.aload_n 0, 1) := by decide +kernel
theorem dX5_addShot_36 : decode cX5_addShot 36 = .ok (.aload 4, 2) := by decide +kernel
theorem dX5_addShot_38 : decode cX5_addShot 38 = .ok (.iload_n 2, 1) := by decide +kernel
theorem dX5_addShot_39 : decode cX5_addShot 39 = .ok (.iload_n 3, 1) := by decide +kernel
theorem dX5_addShot_40 : decode cX5_addShot 40 = .ok (.invokevirtual 67, 3) := by decide +kernel
theorem dX5_addShot_43 : decode cX5_addShot 43 = .ok (.astore 5, 2) := by decide +kernel
theorem dX5_addShot_45 : decode cX5_addShot 45 = .ok (.aload 4, 2) := by decide +kernel
theorem dX5_addShot_47 : decode cX5_addShot 47 = .ok (.getfield 71, 3) := by decide +kernel
theorem dX5_addShot_50 : decode cX5_addShot 50 = .ok (.aload 5, 2) := by decide +kernel
theorem dX5_addShot_52 : decode cX5_addShot 52 = .ok (.invokevirtual 53, 3) := by decide +kernel
theorem dX5_addShot_55 : decode cX5_addShot 55 = .ok (.pop, 1) := by decide +kernel
theorem dX5_addShot_56 : decode cX5_addShot 56 = .ok (.aload 5, 2) := by decide +kernel
theorem dX5_addShot_58 : decode cX5_addShot 58 = .ok (.getfield 74, 3) := by decide +kernel
theorem dX5_addShot_61 : decode cX5_addShot 61 = .ok (.ireturn, 1) := by decide +kernel
theorem dX5_addReel_0 : decode cX5_addReel 0 = .ok (.aload_n 0, 1) := by decide +kernel
theorem dX5_addReel_1 : decode cX5_addReel 1 = .ok (.iload_n 1, 1) := by decide +kernel
theorem dX5_addReel_2 : decode cX5_addReel 2 = .ok (.invokevirtual 57, 3) := by decide +kernel
theorem dX5_addReel_5 : decode cX5_addReel 5 = .ok (.astore_n 2, 1) := by decide +kernel
theorem dX5_addReel_6 : decode cX5_addReel 6 = .ok (.aload_n 0, 1) := by decide +kernel
theorem dX5_addReel_7 : decode cX5_addReel 7 = .ok (.getfield 19, 3) := by decide +kernel
theorem dX5_addReel_10 : decode cX5_addReel 10 = .ok (.invokevirtual 39, 3) := by decide +kernel
theorem dX5_addReel_13 : decode cX5_addReel 13 = .ok (.bipush 24, 2) := by decide +kernel
theorem dX5_addReel_15 : decode cX5_addReel 15 = .ok (.if_icmp .lt 13, 3) := by decide +kernel
theorem dX5_addReel_18 : decode cX5_addReel 18 = .ok (.new 43, 3) := by decide +kernel
theorem dX5_addReel_21 : decode cX5_addReel 21 = .ok (.dup, 1) := by decide +kernel
theorem dX5_addReel_22 : decode cX5_addReel 22 = .ok (.ldc 79, 2) := by decide +kernel
theorem dX5_addReel_24 : decode cX5_addReel 24 = .ok (.invokespecial 47, 3) := by decide +kernel
theorem dX5_addReel_27 : decode cX5_addReel 27 = .ok (.athrow, 1) := by decide +kernel
theorem dX5_addReel_28 : decode cX5_addReel 28 = .ok (.aload_n 0, 1) := by decide +kernel
theorem dX5_addReel_29 : decode cX5_addReel 29 = .ok (.aload_n 2, 1) := by decide +kernel
theorem dX5_addReel_30 : decode cX5_addReel 30 = .ok (.invokevirtual 81, 3) := by decide +kernel
theorem dX5_addReel_33 : decode cX5_addReel 33 = .ok (.getfield 85, 3) := by decide +kernel
theorem dX5_addReel_36 : decode cX5_addReel 36 = .ok (.ireturn, 1) := by decide +kernel
theorem dX5_put_0 : decode cX5_put 0 = .ok (.aload_n 0, 1) := by decide +kernel
theorem dX5_put_1 : decode cX5_put 1 = .ok (.iload_n 1, 1) := by decide +kernel
theorem dX5_put_2 : decode cX5_put 2 = .ok (.invokevirtual 88, 3) := by decide +kernel
theorem dX5_put_5 : decode cX5_put 5 = .ok (.astore_n 3, 1) := by decide +kernel
theorem dX5_put_6 : decode cX5_put 6 = .ok (.aload_n 0, 1) := by decide +kernel
theorem dX5_put_7 : decode cX5_put 7 = .ok (.iload_n 2, 1) := by decide +kernel
theorem dX5_put_8 : decode cX5_put 8 = .ok (.invokevirtual 92, 3) := by decide +kernel
theorem dX5_put_11 : decode cX5_put 11 = .ok (.astore 4, 2) := by decide +kernel
theorem dX5_put_13 : decode cX5_put 13 = .ok (.aload_n 3, 1) := by decide +kernel
theorem dX5_put_14 : decode cX5_put 14 = .ok (.getfield 96, 3) := by decide +kernel
theorem dX5_put_17 : decode cX5_put 17 = .ok (.aload 4, 2) := by decide +kernel
theorem dX5_put_19 : decode cX5_put 19 = .ok (.getfield 100, 3) := by decide +kernel
theorem dX5_put_22 : decode cX5_put 22 = .ok (.if_acmp .eq 13, 3) := by decide +kernel
theorem dX5_put_25 : decode cX5_put 25 = .ok (.new 101, 3) := by decide +kernel
theorem dX5_put_28 : decode cX5_put 28 = .ok (.dup, 1) := by decide +kernel
theorem dX5_put_29 : decode cX5_put 29 = .ok (.ldc 103, 2) := by decide +kernel
theorem dX5_put_31 : decode cX5_put 31 = .ok (.invokespecial 105, 3) := by decide +kernel
theorem dX5_put_34 : decode cX5_put 34 = .ok (.athrow, 1) := by decide +kernel
theorem dX5_put_35 : decode cX5_put 35 = .ok (.aload 4, 2) := by decide +kernel
theorem dX5_put_37 : decode cX5_put 37 = .ok (.invokevirtual 106, 3) := by decide +kernel
theorem dX5_put_40 : decode cX5_put 40 = .ok (.ifCond .eq 13, 3) := by decide +kernel
theorem dX5_put_43 : decode cX5_put 43 = .ok (.aload_n 0, 1) := by decide +kernel
theorem dX5_put_44 : decode cX5_put 44 = .ok (.aload 4, 2) := by decide +kernel
theorem dX5_put_46 : decode cX5_put 46 = .ok (.aload_n 3, 1) := by decide +kernel
theorem dX5_put_47 : decode cX5_put 47 = .ok (.invokevirtual 110, 3) := by decide +kernel
theorem dX5_put_50 : decode cX5_put 50 = .ok (.ifCond .eq 13, 3) := by decide +kernel
theorem dX5_put_53 : decode cX5_put 53 = .ok (.new 114, 3) := by decide +kernel
theorem dX5_put_56 : decode cX5_put 56 = .ok (.dup, 1) := by decide +kernel
theorem dX5_put_57 : decode cX5_put 57 = .ok (.ldc 116, 2) := by decide +kernel
theorem dX5_put_59 : decode cX5_put 59 = .ok (.invokespecial 118, 3) := by decide +kernel
theorem dX5_put_62 : decode cX5_put 62 = .ok (.athrow, 1) := by decide +kernel
theorem dX5_put_63 : decode cX5_put 63 = .ok (.aload_n 0, 1) := by decide +kernel
theorem dX5_put_64 : decode cX5_put 64 = .ok (.aload_n 3, 1) := by decide +kernel
theorem dX5_put_65 : decode cX5_put 65 = .ok (.getfield 96, 3) := by decide +kernel
theorem dX5_put_68 : decode cX5_put 68 = .ok (.invokevirtual 119, 3) := by decide +kernel
theorem dX5_put_71 : decode cX5_put 71 = .ok (.aload_n 3, 1) := by decide +kernel
theorem dX5_put_72 : decode cX5_put 72 = .ok (.aload 4, 2) := by decide +kernel
theorem dX5_put_74 : decode cX5_put 74 = .ok (.invokevirtual 123, 3) := by decide +kernel
theorem dX5_put_77 : decode cX5_put 77 = .ok (.aload_n 3, 1) := by decide +kernel
theorem dX5_put_78 : decode cX5_put 78 = .ok (.getfield 127, 3) := by decide +kernel
theorem dX5_put_81 : decode cX5_put 81 = .ok (.invokevirtual 39, 3) := by decide +kernel
theorem dX5_put_84 : decode cX5_put 84 = .ok (.ireturn, 1) := by decide +kernel
theorem dX5_found_0 : decode cX5_found 0 = .ok (.aload_n 0, 1) := by decide +kernel
theorem dX5_found_1 : decode cX5_found 1 = .ok (.iload_n 1, 1) := by decide +kernel
theorem dX5_found_2 : decode cX5_found 2 = .ok (.invokevirtual 57, 3) := by decide +kernel
theorem dX5_found_5 : decode cX5_found 5 = .ok (.astore 5, 2) := by decide +kernel
theorem dX5_found_7 : decode cX5_found 7 = .ok (.iload_n 2, 1) := by decide +kernel
theorem dX5_found_8 : decode cX5_found 8 = .ok (.ifCond .lt 15, 3) := by decide +kernel
theorem dX5_found_11 : decode cX5_found 11 = .ok (.iload_n 2, 1) := by decide +kernel
theorem dX5_found_12 : decode cX5_found 12 = .ok (.aload 5, 2) := by decide +kernel
theorem dX5_found_14 : decode cX5_found 14 = .ok (.getfield 71, 3) := by decide +kernel
theorem dX5_found_17 : decode cX5_found 17 = .ok (.invokevirtual 39, 3) := by decide +kernel
theorem dX5_found_20 : decode cX5_found 20 = .ok (.if_icmp .le 13, 3) := by decide +kernel
theorem dX5_found_23 : decode cX5_found 23 = .ok (.new 128, 3) := by decide +kernel
theorem dX5_found_26 : decode cX5_found 26 = .ok (.dup, 1) := by decide +kernel
theorem dX5_found_27 : decode cX5_found 27 = .ok (.ldc 130, 2) := by decide +kernel
theorem dX5_found_29 : decode cX5_found 29 = .ok (.invokespecial 132, 3) := by decide +kernel
theorem dX5_found_32 : decode cX5_found 32 = .ok (.athrow, 1) := by decide +kernel
theorem dX5_found_33 : decode cX5_found 33 = .ok (.aload_n 0, 1) := by decide +kernel
theorem dX5_found_34 : decode cX5_found 34 = .ok (.iload_n 3, 1) := by decide +kernel
theorem dX5_found_35 : decode cX5_found 35 = .ok (.iload 4, 2) := by decide +kernel
theorem dX5_found_37 : decode cX5_found 37 = .ok (.invokevirtual 61, 3) := by decide +kernel
theorem dX5_found_40 : decode cX5_found 40 = .ok (.aload_n 0, 1) := by decide +kernel
theorem dX5_found_41 : decode cX5_found 41 = .ok (.aload 5, 2) := by decide +kernel
theorem dX5_found_43 : decode cX5_found 43 = .ok (.invokevirtual 119, 3) := by decide +kernel
theorem dX5_found_46 : decode cX5_found 46 = .ok (.aload_n 0, 1) := by decide +kernel
theorem dX5_found_47 : decode cX5_found 47 = .ok (.getfield 16, 3) := by decide +kernel
theorem dX5_found_50 : decode cX5_found 50 = .ok (.invokevirtual 39, 3) := by decide +kernel
theorem dX5_found_53 : decode cX5_found 53 = .ok (.bipush 60, 2) := by decide +kernel
theorem dX5_found_55 : decode cX5_found 55 = .ok (.if_icmp .ge 15, 3) := by decide +kernel
theorem dX5_found_58 : decode cX5_found 58 = .ok (.aload_n 0, 1) := by decide +kernel
theorem dX5_found_59 : decode cX5_found 59 = .ok (.getfield 19, 3) := by decide +kernel
theorem dX5_found_62 : decode cX5_found 62 = .ok (.invokevirtual 39, 3) := by decide +kernel
theorem dX5_found_65 : decode cX5_found 65 = .ok (.bipush 24, 2) := by decide +kernel
theorem dX5_found_67 : decode cX5_found 67 = .ok (.if_icmp .lt 13, 3) := by decide +kernel
theorem dX5_found_70 : decode cX5_found 70 = .ok (.new 43, 3) := by decide +kernel
theorem dX5_found_73 : decode cX5_found 73 = .ok (.dup, 1) := by decide +kernel
theorem dX5_found_74 : decode cX5_found 74 = .ok (.ldc 133, 2) := by decide +kernel
theorem dX5_found_76 : decode cX5_found 76 = .ok (.invokespecial 47, 3) := by decide +kernel
theorem dX5_found_79 : decode cX5_found 79 = .ok (.athrow, 1) := by decide +kernel
theorem dX5_found_80 : decode cX5_found 80 = .ok (.aload_n 0, 1) := by decide +kernel
theorem dX5_found_81 : decode cX5_found 81 = .ok (.aload 5, 2) := by decide +kernel
theorem dX5_found_83 : decode cX5_found 83 = .ok (.iload_n 3, 1) := by decide +kernel
theorem dX5_found_84 : decode cX5_found 84 = .ok (.iload 4, 2) := by decide +kernel
theorem dX5_found_86 : decode cX5_found 86 = .ok (.invokevirtual 67, 3) := by decide +kernel
theorem dX5_found_89 : decode cX5_found 89 = .ok (.astore 6, 2) := by decide +kernel
theorem dX5_found_91 : decode cX5_found 91 = .ok (.aload 5, 2) := by decide +kernel
theorem dX5_found_93 : decode cX5_found 93 = .ok (.getfield 71, 3) := by decide +kernel
theorem dX5_found_96 : decode cX5_found 96 = .ok (.iload_n 2, 1) := by decide +kernel
theorem dX5_found_97 : decode cX5_found 97 = .ok (.aload 6, 2) := by decide +kernel
theorem dX5_found_99 : decode cX5_found 99 = .ok (.invokevirtual 135, 3) := by decide +kernel
theorem dX5_found_102 : decode cX5_found 102 = .ok (.aload_n 0, 1) := by decide +kernel
theorem dX5_found_103 : decode cX5_found 103 = .ok (.aload 5, 2) := by decide +kernel
theorem dX5_found_105 : decode cX5_found 105 = .ok (.invokevirtual 81, 3) := by decide +kernel
theorem dX5_found_108 : decode cX5_found 108 = .ok (.astore 7, 2) := by decide +kernel
theorem dX5_found_110 : decode cX5_found 110 = .ok (.aload 7, 2) := by decide +kernel
theorem dX5_found_112 : decode cX5_found 112 = .ok (.aload 6, 2) := by decide +kernel
theorem dX5_found_114 : decode cX5_found 114 = .ok (.invokevirtual 123, 3) := by decide +kernel
theorem dX5_found_117 : decode cX5_found 117 = .ok (.aload 7, 2) := by decide +kernel
theorem dX5_found_119 : decode cX5_found 119 = .ok (.getfield 85, 3) := by decide +kernel
theorem dX5_found_122 : decode cX5_found 122 = .ok (.ireturn, 1) := by decide +kernel
theorem dX5_join_0 : decode cX5_join 0 = .ok (.aload_n 0, 1) := by decide +kernel
theorem dX5_join_1 : decode cX5_join 1 = .ok (.iload_n 1, 1) := by decide +kernel
theorem dX5_join_2 : decode cX5_join 2 = .ok (.invokevirtual 88, 3) := by decide +kernel
theorem dX5_join_5 : decode cX5_join 5 = .ok (.astore_n 3, 1) := by decide +kernel
theorem dX5_join_6 : decode cX5_join 6 = .ok (.aload_n 0, 1) := by decide +kernel
theorem dX5_join_7 : decode cX5_join 7 = .ok (.iload_n 2, 1) := by decide +kernel
theorem dX5_join_8 : decode cX5_join 8 = .ok (.invokevirtual 88, 3) := by decide +kernel
theorem dX5_join_11 : decode cX5_join 11 = .ok (.astore 4, 2) := by decide +kernel
theorem dX5_join_13 : decode cX5_join 13 = .ok (.aload_n 3, 1) := by decide +kernel
theorem dX5_join_14 : decode cX5_join 14 = .ok (.aload 4, 2) := by decide +kernel
theorem dX5_join_16 : decode cX5_join 16 = .ok (.if_acmp .eq 15, 3) := by decide +kernel
theorem dX5_join_19 : decode cX5_join 19 = .ok (.aload_n 3, 1) := by decide +kernel
theorem dX5_join_20 : decode cX5_join 20 = .ok (.getfield 96, 3) := by decide +kernel
theorem dX5_join_23 : decode cX5_join 23 = .ok (.aload 4, 2) := by decide +kernel
theorem dX5_join_25 : decode cX5_join 25 = .ok (.getfield 96, 3) := by decide +kernel
theorem dX5_join_28 : decode cX5_join 28 = .ok (.if_acmp .eq 13, 3) := by decide +kernel
theorem dX5_join_31 : decode cX5_join 31 = .ok (.new 101, 3) := by decide +kernel
theorem dX5_join_34 : decode cX5_join 34 = .ok (.dup, 1) := by decide +kernel
theorem dX5_join_35 : decode cX5_join 35 = .ok (.ldc 138, 2) := by decide +kernel
theorem dX5_join_37 : decode cX5_join 37 = .ok (.invokespecial 105, 3) := by decide +kernel
theorem dX5_join_40 : decode cX5_join 40 = .ok (.athrow, 1) := by decide +kernel
theorem dX5_join_41 : decode cX5_join 41 = .ok (.aload_n 0, 1) := by decide +kernel
theorem dX5_join_42 : decode cX5_join 42 = .ok (.aload_n 3, 1) := by decide +kernel
theorem dX5_join_43 : decode cX5_join 43 = .ok (.aload 4, 2) := by decide +kernel
theorem dX5_join_45 : decode cX5_join 45 = .ok (.invokevirtual 140, 3) := by decide +kernel
theorem dX5_join_48 : decode cX5_join 48 = .ok (.ifCond .ne 13, 3) := by decide +kernel
theorem dX5_join_51 : decode cX5_join 51 = .ok (.new 114, 3) := by decide +kernel
theorem dX5_join_54 : decode cX5_join 54 = .ok (.dup, 1) := by decide +kernel
theorem dX5_join_55 : decode cX5_join 55 = .ok (.ldc 144, 2) := by decide +kernel
theorem dX5_join_57 : decode cX5_join 57 = .ok (.invokespecial 118, 3) := by decide +kernel
theorem dX5_join_60 : decode cX5_join 60 = .ok (.athrow, 1) := by decide +kernel
theorem dX5_join_61 : decode cX5_join 61 = .ok (.aload_n 0, 1) := by decide +kernel
theorem dX5_join_62 : decode cX5_join 62 = .ok (.aload_n 3, 1) := by decide +kernel
theorem dX5_join_63 : decode cX5_join 63 = .ok (.getfield 96, 3) := by decide +kernel
theorem dX5_join_66 : decode cX5_join 66 = .ok (.invokevirtual 119, 3) := by decide +kernel
theorem dX5_join_69 : decode cX5_join 69 = .ok (.aload 4, 2) := by decide +kernel
theorem dX5_join_71 : decode cX5_join 71 = .ok (.getfield 127, 3) := by decide +kernel
theorem dX5_join_74 : decode cX5_join 74 = .ok (.invokevirtual 39, 3) := by decide +kernel
theorem dX5_join_77 : decode cX5_join 77 = .ok (.istore 5, 2) := by decide +kernel
theorem dX5_join_79 : decode cX5_join 79 = .ok (.iconst 0, 1) := by decide +kernel
theorem dX5_join_80 : decode cX5_join 80 = .ok (.istore 6, 2) := by decide +kernel
theorem dX5_join_82 : decode cX5_join 82 = .ok (.iload 6, 2) := by decide +kernel
theorem dX5_join_84 : decode cX5_join 84 = .ok (.iload 5, 2) := by decide +kernel
theorem dX5_join_86 : decode cX5_join 86 = .ok (.if_icmp .ge 26, 3) := by decide +kernel
theorem dX5_join_89 : decode cX5_join 89 = .ok (.aload_n 3, 1) := by decide +kernel
theorem dX5_join_90 : decode cX5_join 90 = .ok (.aload 4, 2) := by decide +kernel
theorem dX5_join_92 : decode cX5_join 92 = .ok (.getfield 127, 3) := by decide +kernel
theorem dX5_join_95 : decode cX5_join 95 = .ok (.iload 6, 2) := by decide +kernel
theorem dX5_join_97 : decode cX5_join 97 = .ok (.invokevirtual 146, 3) := by decide +kernel
theorem dX5_join_100 : decode cX5_join 100 = .ok (.checkcast 75, 3) := by decide +kernel
theorem dX5_join_103 : decode cX5_join 103 = .ok (.invokevirtual 123, 3) := by decide +kernel
theorem dX5_join_106 : decode cX5_join 106 = .ok (.iinc 6 1, 3) := by decide +kernel
theorem dX5_join_109 : decode cX5_join 109 = .ok (.goto (-27), 3) := by decide +kernel
theorem dX5_join_112 : decode cX5_join 112 = .ok (.aload 4, 2) := by decide +kernel
theorem dX5_join_114 : decode cX5_join 114 = .ok (.getfield 127, 3) := by decide +kernel
theorem dX5_join_117 : decode cX5_join 117 = .ok (.invokevirtual 150, 3) := by decide +kernel
theorem dX5_join_120 : decode cX5_join 120 = .ok (.aload_n 3, 1) := by decide +kernel
theorem dX5_join_121 : decode cX5_join 121 = .ok (.getfield 127, 3) := by decide +kernel
theorem dX5_join_124 : decode cX5_join 124 = .ok (.invokevirtual 39, 3) := by decide +kernel
theorem dX5_join_127 : decode cX5_join 127 = .ok (.ireturn, 1) := by decide +kernel
theorem dX5_shots_0 : decode cX5_shots 0 = .ok (.aload_n 0, 1) := by decide +kernel
theorem dX5_shots_1 : decode cX5_shots 1 = .ok (.iload_n 1, 1) := by decide +kernel
theorem dX5_shots_2 : decode cX5_shots 2 = .ok (.invokevirtual 57, 3) := by decide +kernel
theorem dX5_shots_5 : decode cX5_shots 5 = .ok (.getfield 71, 3) := by decide +kernel
theorem dX5_shots_8 : decode cX5_shots 8 = .ok (.invokevirtual 39, 3) := by decide +kernel
theorem dX5_shots_11 : decode cX5_shots 11 = .ok (.ireturn, 1) := by decide +kernel
theorem dX5_shotOf_0 : decode cX5_shotOf 0 = .ok (.aload_n 0, 1) := by decide +kernel
theorem dX5_shotOf_1 : decode cX5_shotOf 1 = .ok (.iload_n 1, 1) := by decide +kernel
theorem dX5_shotOf_2 : decode cX5_shotOf 2 = .ok (.invokevirtual 57, 3) := by decide +kernel
theorem dX5_shotOf_5 : decode cX5_shotOf 5 = .ok (.astore_n 3, 1) := by decide +kernel
theorem dX5_shotOf_6 : decode cX5_shotOf 6 = .ok (.iload_n 2, 1) := by decide +kernel
theorem dX5_shotOf_7 : decode cX5_shotOf 7 = .ok (.ifCond .lt 14, 3) := by decide +kernel
theorem dX5_shotOf_10 : decode cX5_shotOf 10 = .ok (.iload_n 2, 1) := by decide +kernel
theorem dX5_shotOf_11 : decode cX5_shotOf 11 = .ok (.aload_n 3, 1) := by decide +kernel
theorem dX5_shotOf_12 : decode cX5_shotOf 12 = .ok (.getfield 71, 3) := by decide +kernel
theorem dX5_shotOf_15 : decode cX5_shotOf 15 = .ok (.invokevirtual 39, 3) := by decide +kernel
theorem dX5_shotOf_18 : decode cX5_shotOf 18 = .ok (.if_icmp .lt 13, 3) := by decide +kernel
theorem dX5_shotOf_21 : decode cX5_shotOf 21 = .ok (.new 128, 3) := by decide +kernel
theorem dX5_shotOf_24 : decode cX5_shotOf 24 = .ok (.dup, 1) := by decide +kernel
theorem dX5_shotOf_25 : decode cX5_shotOf 25 = .ok (.ldc 130, 2) := by decide +kernel
theorem dX5_shotOf_27 : decode cX5_shotOf 27 = .ok (.invokespecial 132, 3) := by decide +kernel
theorem dX5_shotOf_30 : decode cX5_shotOf 30 = .ok (.athrow, 1) := by decide +kernel
theorem dX5_shotOf_31 : decode cX5_shotOf 31 = .ok (.aload_n 3, 1) := by decide +kernel
theorem dX5_shotOf_32 : decode cX5_shotOf 32 = .ok (.getfield 71, 3) := by decide +kernel
theorem dX5_shotOf_35 : decode cX5_shotOf 35 = .ok (.iload_n 2, 1) := by decide +kernel
theorem dX5_shotOf_36 : decode cX5_shotOf 36 = .ok (.invokevirtual 146, 3) := by decide +kernel
theorem dX5_shotOf_39 : decode cX5_shotOf 39 = .ok (.checkcast 75, 3) := by decide +kernel
theorem dX5_shotOf_42 : decode cX5_shotOf 42 = .ok (.getfield 74, 3) := by decide +kernel
theorem dX5_shotOf_45 : decode cX5_shotOf 45 = .ok (.ireturn, 1) := by decide +kernel
theorem dX5_lengthOf_0 : decode cX5_lengthOf 0 = .ok (.aload_n 0, 1) := by decide +kernel
theorem dX5_lengthOf_1 : decode cX5_lengthOf 1 = .ok (.iload_n 1, 1) := by decide +kernel
theorem dX5_lengthOf_2 : decode cX5_lengthOf 2 = .ok (.invokevirtual 92, 3) := by decide +kernel
theorem dX5_lengthOf_5 : decode cX5_lengthOf 5 = .ok (.getfield 153, 3) := by decide +kernel
theorem dX5_lengthOf_8 : decode cX5_lengthOf 8 = .ok (.ireturn, 1) := by decide +kernel
theorem dX5_frameOf_0 : decode cX5_frameOf 0 = .ok (.aload_n 0, 1) := by decide +kernel
theorem dX5_frameOf_1 : decode cX5_frameOf 1 = .ok (.iload_n 1, 1) := by decide +kernel
theorem dX5_frameOf_2 : decode cX5_frameOf 2 = .ok (.invokevirtual 92, 3) := by decide +kernel
theorem dX5_frameOf_5 : decode cX5_frameOf 5 = .ok (.astore_n 2, 1) := by decide +kernel
theorem dX5_frameOf_6 : decode cX5_frameOf 6 = .ok (.aload_n 2, 1) := by decide +kernel
theorem dX5_frameOf_7 : decode cX5_frameOf 7 = .ok (.invokevirtual 106, 3) := by decide +kernel
theorem dX5_frameOf_10 : decode cX5_frameOf 10 = .ok (.ifCond .eq 13, 3) := by decide +kernel
theorem dX5_frameOf_13 : decode cX5_frameOf 13 = .ok (.new 156, 3) := by decide +kernel
theorem dX5_frameOf_16 : decode cX5_frameOf 16 = .ok (.dup, 1) := by decide +kernel
theorem dX5_frameOf_17 : decode cX5_frameOf 17 = .ok (.ldc 158, 2) := by decide +kernel
theorem dX5_frameOf_19 : decode cX5_frameOf 19 = .ok (.invokespecial 160, 3) := by decide +kernel
theorem dX5_frameOf_22 : decode cX5_frameOf 22 = .ok (.athrow, 1) := by decide +kernel
theorem dX5_frameOf_23 : decode cX5_frameOf 23 = .ok (.aload_n 2, 1) := by decide +kernel
theorem dX5_frameOf_24 : decode cX5_frameOf 24 = .ok (.getfield 100, 3) := by decide +kernel
theorem dX5_frameOf_27 : decode cX5_frameOf 27 = .ok (.aload_n 2, 1) := by decide +kernel
theorem dX5_frameOf_28 : decode cX5_frameOf 28 = .ok (.getfield 100, 3) := by decide +kernel
theorem dX5_frameOf_31 : decode cX5_frameOf 31 = .ok (.aload_n 2, 1) := by decide +kernel
theorem dX5_frameOf_32 : decode cX5_frameOf 32 = .ok (.invokevirtual 161, 3) := by decide +kernel
theorem dX5_frameOf_35 : decode cX5_frameOf 35 = .ok (.invokevirtual 165, 3) := by decide +kernel
theorem dX5_frameOf_38 : decode cX5_frameOf 38 = .ok (.ireturn, 1) := by decide +kernel
theorem dX5_shotAt_0 : decode cX5_shotAt 0 = .ok (.aload_n 0, 1) := by decide +kernel
theorem dX5_shotAt_1 : decode cX5_shotAt 1 = .ok (.iload_n 1, 1) := by decide +kernel
theorem dX5_shotAt_2 : decode cX5_shotAt 2 = .ok (.invokevirtual 57, 3) := by decide +kernel
theorem dX5_shotAt_5 : decode cX5_shotAt 5 = .ok (.astore_n 3, 1) := by decide +kernel
theorem dX5_shotAt_6 : decode cX5_shotAt 6 = .ok (.iload_n 2, 1) := by decide +kernel
theorem dX5_shotAt_7 : decode cX5_shotAt 7 = .ok (.ifCond .ge 13, 3) := by decide +kernel
theorem dX5_shotAt_10 : decode cX5_shotAt 10 = .ok (.new 156, 3) := by decide +kernel
theorem dX5_shotAt_13 : decode cX5_shotAt 13 = .ok (.dup, 1) := by decide +kernel
theorem dX5_shotAt_14 : decode cX5_shotAt 14 = .ok (.ldc 169, 2) := by decide +kernel
theorem dX5_shotAt_16 : decode cX5_shotAt 16 = .ok (.invokespecial 160, 3) := by decide +kernel
theorem dX5_shotAt_19 : decode cX5_shotAt 19 = .ok (.athrow, 1) := by decide +kernel
theorem dX5_shotAt_20 : decode cX5_shotAt 20 = .ok (.iconst 0, 1) := by decide +kernel
theorem dX5_shotAt_21 : decode cX5_shotAt 21 = .ok (.istore 4, 2) := by decide +kernel
theorem dX5_shotAt_23 : decode cX5_shotAt 23 = .ok (.iconst 0, 1) := by decide +kernel
theorem dX5_shotAt_24 : decode cX5_shotAt 24 = .ok (.istore 5, 2) := by decide +kernel
theorem dX5_shotAt_26 : decode cX5_shotAt 26 = .ok (.iload 5, 2) := by decide +kernel
theorem dX5_shotAt_28 : decode cX5_shotAt 28 = .ok (.aload_n 3, 1) := by decide +kernel
theorem dX5_shotAt_29 : decode cX5_shotAt 29 = .ok (.getfield 71, 3) := by decide +kernel
theorem dX5_shotAt_32 : decode cX5_shotAt 32 = .ok (.invokevirtual 39, 3) := by decide +kernel
theorem dX5_shotAt_35 : decode cX5_shotAt 35 = .ok (.if_icmp .ge 45, 3) := by decide +kernel
theorem dX5_shotAt_38 : decode cX5_shotAt 38 = .ok (.aload_n 3, 1) := by decide +kernel
theorem dX5_shotAt_39 : decode cX5_shotAt 39 = .ok (.getfield 71, 3) := by decide +kernel
theorem dX5_shotAt_42 : decode cX5_shotAt 42 = .ok (.iload 5, 2) := by decide +kernel
theorem dX5_shotAt_44 : decode cX5_shotAt 44 = .ok (.invokevirtual 146, 3) := by decide +kernel
theorem dX5_shotAt_47 : decode cX5_shotAt 47 = .ok (.checkcast 75, 3) := by decide +kernel
theorem dX5_shotAt_50 : decode cX5_shotAt 50 = .ok (.astore 6, 2) := by decide +kernel
theorem dX5_shotAt_52 : decode cX5_shotAt 52 = .ok (.iload 4, 2) := by decide +kernel
theorem dX5_shotAt_54 : decode cX5_shotAt 54 = .ok (.aload 6, 2) := by decide +kernel
theorem dX5_shotAt_56 : decode cX5_shotAt 56 = .ok (.invokevirtual 171, 3) := by decide +kernel
theorem dX5_shotAt_59 : decode cX5_shotAt 59 = .ok (.iadd, 1) := by decide +kernel
theorem dX5_shotAt_60 : decode cX5_shotAt 60 = .ok (.istore 4, 2) := by decide +kernel
theorem dX5_shotAt_62 : decode cX5_shotAt 62 = .ok (.iload_n 2, 1) := by decide +kernel
theorem dX5_shotAt_63 : decode cX5_shotAt 63 = .ok (.iload 4, 2) := by decide +kernel
theorem dX5_shotAt_65 : decode cX5_shotAt 65 = .ok (.if_icmp .ge 9, 3) := by decide +kernel
theorem dX5_shotAt_68 : decode cX5_shotAt 68 = .ok (.aload 6, 2) := by decide +kernel
theorem dX5_shotAt_70 : decode cX5_shotAt 70 = .ok (.getfield 74, 3) := by decide +kernel
theorem dX5_shotAt_73 : decode cX5_shotAt 73 = .ok (.ireturn, 1) := by decide +kernel
theorem dX5_shotAt_74 : decode cX5_shotAt 74 = .ok (.iinc 5 1, 3) := by decide +kernel
theorem dX5_shotAt_77 : decode cX5_shotAt 77 = .ok (.goto (-51), 3) := by decide +kernel
theorem dX5_shotAt_80 : decode cX5_shotAt 80 = .ok (.new 156, 3) := by decide +kernel
theorem dX5_shotAt_83 : decode cX5_shotAt 83 = .ok (.dup, 1) := by decide +kernel
theorem dX5_shotAt_84 : decode cX5_shotAt 84 = .ok (.ldc 169, 2) := by decide +kernel
theorem dX5_shotAt_86 : decode cX5_shotAt 86 = .ok (.invokespecial 160, 3) := by decide +kernel
theorem dX5_shotAt_89 : decode cX5_shotAt 89 = .ok (.athrow, 1) := by decide +kernel
theorem dX5_reelOf_0 : decode cX5_reelOf 0 = .ok (.aload_n 0, 1) := by decide +kernel
theorem dX5_reelOf_1 : decode cX5_reelOf 1 = .ok (.iload_n 1, 1) := by decide +kernel
theorem dX5_reelOf_2 : decode cX5_reelOf 2 = .ok (.invokevirtual 92, 3) := by decide +kernel
theorem dX5_reelOf_5 : decode cX5_reelOf 5 = .ok (.getfield 174, 3) := by decide +kernel
theorem dX5_reelOf_8 : decode cX5_reelOf 8 = .ok (.astore_n 2, 1) := by decide +kernel
theorem dX5_reelOf_9 : decode cX5_reelOf 9 = .ok (.aload_n 2, 1) := by decide +kernel
theorem dX5_reelOf_10 : decode cX5_reelOf 10 = .ok (.ifnonnull 7, 3) := by decide +kernel
theorem dX5_reelOf_13 : decode cX5_reelOf 13 = .ok (.iconst (-1), 1) := by decide +kernel
theorem dX5_reelOf_14 : decode cX5_reelOf 14 = .ok (.goto 7, 3) := by decide +kernel
theorem dX5_reelOf_17 : decode cX5_reelOf 17 = .ok (.aload_n 2, 1) := by decide +kernel
theorem dX5_reelOf_18 : decode cX5_reelOf 18 = .ok (.getfield 85, 3) := by decide +kernel
theorem dX5_reelOf_21 : decode cX5_reelOf 21 = .ok (.ireturn, 1) := by decide +kernel
theorem dX5_setLimit_0 : decode cX5_setLimit 0 = .ok (.iload_n 1, 1) := by decide +kernel
theorem dX5_setLimit_1 : decode cX5_setLimit 1 = .ok (.iconst 2, 1) := by decide +kernel
theorem dX5_setLimit_2 : decode cX5_setLimit 2 = .ok (.if_icmp .lt 9, 3) := by decide +kernel
theorem dX5_setLimit_5 : decode cX5_setLimit 5 = .ok (.iload_n 1, 1) := by decide +kernel
theorem dX5_setLimit_6 : decode cX5_setLimit 6 = .ok (.bipush 50, 2) := by decide +kernel
theorem dX5_setLimit_8 : decode cX5_setLimit 8 = .ok (.if_icmp .le 13, 3) := by decide +kernel
theorem dX5_setLimit_11 : decode cX5_setLimit 11 = .ok (.new 101, 3) := by decide +kernel
theorem dX5_setLimit_14 : decode cX5_setLimit 14 = .ok (.dup, 1) := by decide +kernel
theorem dX5_setLimit_15 : decode cX5_setLimit 15 = .ok (.ldc 178, 2) := by decide +kernel
theorem dX5_setLimit_17 : decode cX5_setLimit 17 = .ok (.invokespecial 105, 3) := by decide +kernel
theorem dX5_setLimit_20 : decode cX5_setLimit 20 = .ok (.athrow, 1) := by decide +kernel
theorem dX5_setLimit_21 : decode cX5_setLimit 21 = .ok (.aload_n 0, 1) := by decide +kernel
theorem dX5_setLimit_22 : decode cX5_setLimit 22 = .ok (.iload_n 1, 1) := by decide +kernel
theorem dX5_setLimit_23 : decode cX5_setLimit 23 = .ok (.invokevirtual 180, 3) := by decide +kernel
theorem dX5_setLimit_26 : decode cX5_setLimit 26 = .ok (.ifCond .eq 18, 3) := by decide +kernel
theorem dX5_setLimit_29 : decode cX5_setLimit 29 = .ok (.iload_n 1, 1) := by decide +kernel
theorem dX5_setLimit_30 : decode cX5_setLimit 30 = .ok (.aload_n 0, 1) := by decide +kernel
theorem dX5_setLimit_31 : decode cX5_setLimit 31 = .ok (.getfield 28, 3) := by decide +kernel
theorem dX5_setLimit_34 : decode cX5_setLimit 34 = .ok (.if_icmp .ge 20, 3) := by decide +kernel
theorem dX5_setLimit_37 : decode cX5_setLimit 37 = .ok (.aload_n 0, 1) := by decide +kernel
theorem dX5_setLimit_38 : decode cX5_setLimit 38 = .ok (.invokevirtual 184, 3) := by decide +kernel
theorem dX5_setLimit_41 : decode cX5_setLimit 41 = .ok (.ifCond .eq 13, 3) := by decide +kernel
theorem dX5_setLimit_44 : decode cX5_setLimit 44 = .ok (.new 114, 3) := by decide +kernel
theorem dX5_setLimit_47 : decode cX5_setLimit 47 = .ok (.dup, 1) := by decide +kernel
theorem dX5_setLimit_48 : decode cX5_setLimit 48 = .ok (.ldc 187, 2) := by decide +kernel
theorem dX5_setLimit_50 : decode cX5_setLimit 50 = .ok (.invokespecial 118, 3) := by decide +kernel
theorem dX5_setLimit_53 : decode cX5_setLimit 53 = .ok (.athrow, 1) := by decide +kernel
theorem dX5_setLimit_54 : decode cX5_setLimit 54 = .ok (.aload_n 0, 1) := by decide +kernel
theorem dX5_setLimit_55 : decode cX5_setLimit 55 = .ok (.getfield 28, 3) := by decide +kernel
theorem dX5_setLimit_58 : decode cX5_setLimit 58 = .ok (.istore_n 2, 1) := by decide +kernel
theorem dX5_setLimit_59 : decode cX5_setLimit 59 = .ok (.aload_n 0, 1) := by decide +kernel
theorem dX5_setLimit_60 : decode cX5_setLimit 60 = .ok (.iload_n 1, 1) := by decide +kernel
theorem dX5_setLimit_61 : decode cX5_setLimit 61 = .ok (.putfield 28, 3) := by decide +kernel
theorem dX5_setLimit_64 : decode cX5_setLimit 64 = .ok (.iload_n 2, 1) := by decide +kernel
theorem dX5_setLimit_65 : decode cX5_setLimit 65 = .ok (.ireturn, 1) := by decide +kernel
theorem dX5_run_0 : decode cX5_run 0 = .ok (.aload_n 0, 1) := by decide +kernel
theorem dX5_run_1 : decode cX5_run 1 = .ok (.iload_n 1, 1) := by decide +kernel
theorem dX5_run_2 : decode cX5_run 2 = .ok (.invokevirtual 88, 3) := by decide +kernel
theorem dX5_run_5 : decode cX5_run 5 = .ok (.astore_n 2, 1) := by decide +kernel
theorem dX5_run_6 : decode cX5_run 6 = .ok (.aload_n 2, 1) := by decide +kernel
theorem dX5_run_7 : decode cX5_run 7 = .ok (.iconst 1, 1) := by decide +kernel
theorem dX5_run_8 : decode cX5_run 8 = .ok (.aload_n 0, 1) := by decide +kernel
theorem dX5_run_9 : decode cX5_run 9 = .ok (.getfield 28, 3) := by decide +kernel
theorem dX5_run_12 : decode cX5_run 12 = .ok (.invokevirtual 189, 3) := by decide +kernel
theorem dX5_run_15 : decode cX5_run 15 = .ok (.ifCond .ne 13, 3) := by decide +kernel
theorem dX5_run_18 : decode cX5_run 18 = .ok (.new 114, 3) := by decide +kernel
theorem dX5_run_21 : decode cX5_run 21 = .ok (.dup, 1) := by decide +kernel
theorem dX5_run_22 : decode cX5_run 22 = .ok (.ldc 193, 2) := by decide +kernel
theorem dX5_run_24 : decode cX5_run 24 = .ok (.invokespecial 118, 3) := by decide +kernel
theorem dX5_run_27 : decode cX5_run 27 = .ok (.athrow, 1) := by decide +kernel
theorem dX5_run_28 : decode cX5_run 28 = .ok (.aload_n 0, 1) := by decide +kernel
theorem dX5_run_29 : decode cX5_run 29 = .ok (.aload_n 2, 1) := by decide +kernel
theorem dX5_run_30 : decode cX5_run 30 = .ok (.getfield 96, 3) := by decide +kernel
theorem dX5_run_33 : decode cX5_run 33 = .ok (.invokevirtual 119, 3) := by decide +kernel
theorem dX5_run_36 : decode cX5_run 36 = .ok (.aload_n 0, 1) := by decide +kernel
theorem dX5_run_37 : decode cX5_run 37 = .ok (.aload_n 2, 1) := by decide +kernel
theorem dX5_run_38 : decode cX5_run 38 = .ok (.iconst 1, 1) := by decide +kernel
theorem dX5_run_39 : decode cX5_run 39 = .ok (.invokevirtual 195, 3) := by decide +kernel
theorem dX5_run_42 : decode cX5_run 42 = .ok (.aload_n 2, 1) := by decide +kernel
theorem dX5_run_43 : decode cX5_run 43 = .ok (.invokevirtual 199, 3) := by decide +kernel
theorem dX5_run_46 : decode cX5_run 46 = .ok (.ireturn, 1) := by decide +kernel
theorem dX5_wear_0 : decode cX5_wear 0 = .ok (.aload_n 0, 1) := by decide +kernel
theorem dX5_wear_1 : decode cX5_wear 1 = .ok (.aload_n 0, 1) := by decide +kernel
theorem dX5_wear_2 : decode cX5_wear 2 = .ok (.iload_n 1, 1) := by decide +kernel
theorem dX5_wear_3 : decode cX5_wear 3 = .ok (.invokevirtual 88, 3) := by decide +kernel
theorem dX5_wear_6 : decode cX5_wear 6 = .ok (.iload_n 2, 1) := by decide +kernel
theorem dX5_wear_7 : decode cX5_wear 7 = .ok (.invokevirtual 202, 3) := by decide +kernel
theorem dX5_wear_10 : decode cX5_wear 10 = .ok (.getfield 206, 3) := by decide +kernel
theorem dX5_wear_13 : decode cX5_wear 13 = .ok (.ireturn, 1) := by decide +kernel
theorem dX5_mend_0 : decode cX5_mend 0 = .ok (.aload_n 0, 1) := by decide +kernel
theorem dX5_mend_1 : decode cX5_mend 1 = .ok (.iload_n 1, 1) := by decide +kernel
theorem dX5_mend_2 : decode cX5_mend 2 = .ok (.invokevirtual 88, 3) := by decide +kernel
theorem dX5_mend_5 : decode cX5_mend 5 = .ok (.astore_n 3, 1) := by decide +kernel
theorem dX5_mend_6 : decode cX5_mend 6 = .ok (.aload_n 0, 1) := by decide +kernel
theorem dX5_mend_7 : decode cX5_mend 7 = .ok (.aload_n 3, 1) := by decide +kernel
theorem dX5_mend_8 : decode cX5_mend 8 = .ok (.iload_n 2, 1) := by decide +kernel
theorem dX5_mend_9 : decode cX5_mend 9 = .ok (.invokevirtual 202, 3) := by decide +kernel
theorem dX5_mend_12 : decode cX5_mend 12 = .ok (.astore 4, 2) := by decide +kernel
theorem dX5_mend_14 : decode cX5_mend 14 = .ok (.aload 4, 2) := by decide +kernel
theorem dX5_mend_16 : decode cX5_mend 16 = .ok (.getfield 153, 3) := by decide +kernel
theorem dX5_mend_19 : decode cX5_mend 19 = .ok (.iconst 2, 1) := by decide +kernel
theorem dX5_mend_20 : decode cX5_mend 20 = .ok (.if_icmp .ge 13, 3) := by decide +kernel
theorem dX5_mend_23 : decode cX5_mend 23 = .ok (.new 114, 3) := by decide +kernel
theorem dX5_mend_26 : decode cX5_mend 26 = .ok (.dup, 1) := by decide +kernel
theorem dX5_mend_27 : decode cX5_mend 27 = .ok (.ldc 209, 2) := by decide +kernel
theorem dX5_mend_29 : decode cX5_mend 29 = .ok (.invokespecial 118, 3) := by decide +kernel
theorem dX5_mend_32 : decode cX5_mend 32 = .ok (.athrow, 1) := by decide +kernel
theorem dX5_mend_33 : decode cX5_mend 33 = .ok (.aload_n 0, 1) := by decide +kernel
theorem dX5_mend_34 : decode cX5_mend 34 = .ok (.aload_n 3, 1) := by decide +kernel
theorem dX5_mend_35 : decode cX5_mend 35 = .ok (.getfield 96, 3) := by decide +kernel
theorem dX5_mend_38 : decode cX5_mend 38 = .ok (.invokevirtual 119, 3) := by decide +kernel
theorem dX5_mend_41 : decode cX5_mend 41 = .ok (.aload 4, 2) := by decide +kernel
theorem dX5_mend_43 : decode cX5_mend 43 = .ok (.getfield 206, 3) := by decide +kernel
theorem dX5_mend_46 : decode cX5_mend 46 = .ok (.istore 5, 2) := by decide +kernel
theorem dX5_mend_48 : decode cX5_mend 48 = .ok (.aload 4, 2) := by decide +kernel
theorem dX5_mend_50 : decode cX5_mend 50 = .ok (.iconst 0, 1) := by decide +kernel
theorem dX5_mend_51 : decode cX5_mend 51 = .ok (.putfield 206, 3) := by decide +kernel
theorem dX5_mend_54 : decode cX5_mend 54 = .ok (.aload_n 0, 1) := by decide +kernel
theorem dX5_mend_55 : decode cX5_mend 55 = .ok (.aload 4, 2) := by decide +kernel
theorem dX5_mend_57 : decode cX5_mend 57 = .ok (.invokevirtual 211, 3) := by decide +kernel
theorem dX5_mend_60 : decode cX5_mend 60 = .ok (.iload 5, 2) := by decide +kernel
theorem dX5_mend_62 : decode cX5_mend 62 = .ok (.ireturn, 1) := by decide +kernel
theorem dX5_scan_0 : decode cX5_scan 0 = .ok (.aload_n 0, 1) := by decide +kernel
theorem dX5_scan_1 : decode cX5_scan 1 = .ok (.iload_n 1, 1) := by decide +kernel
theorem dX5_scan_2 : decode cX5_scan 2 = .ok (.invokevirtual 88, 3) := by decide +kernel
theorem dX5_scan_5 : decode cX5_scan 5 = .ok (.astore_n 3, 1) := by decide +kernel
theorem dX5_scan_6 : decode cX5_scan 6 = .ok (.iload_n 2, 1) := by decide +kernel
theorem dX5_scan_7 : decode cX5_scan 7 = .ok (.iconst 1, 1) := by decide +kernel
theorem dX5_scan_8 : decode cX5_scan 8 = .ok (.if_icmp .lt 8, 3) := by decide +kernel
theorem dX5_scan_11 : decode cX5_scan 11 = .ok (.iload_n 2, 1) := by decide +kernel
theorem dX5_scan_12 : decode cX5_scan 12 = .ok (.iconst 4, 1) := by decide +kernel
theorem dX5_scan_13 : decode cX5_scan 13 = .ok (.if_icmp .le 13, 3) := by decide +kernel
theorem dX5_scan_16 : decode cX5_scan 16 = .ok (.new 101, 3) := by decide +kernel
theorem dX5_scan_19 : decode cX5_scan 19 = .ok (.dup, 1) := by decide +kernel
theorem dX5_scan_20 : decode cX5_scan 20 = .ok (.ldc 214, 2) := by decide +kernel
theorem dX5_scan_22 : decode cX5_scan 22 = .ok (.invokespecial 105, 3) := by decide +kernel
theorem dX5_scan_25 : decode cX5_scan 25 = .ok (.athrow, 1) := by decide +kernel
theorem dX5_scan_26 : decode cX5_scan 26 = .ok (.aload_n 3, 1) := by decide +kernel
theorem dX5_scan_27 : decode cX5_scan 27 = .ok (.getfield 127, 3) := by decide +kernel
theorem dX5_scan_30 : decode cX5_scan 30 = .ok (.invokevirtual 216, 3) := by decide +kernel
theorem dX5_scan_33 : decode cX5_scan 33 = .ok (.ifCond .eq 13, 3) := by decide +kernel
theorem dX5_scan_36 : decode cX5_scan 36 = .ok (.new 114, 3) := by decide +kernel
theorem dX5_scan_39 : decode cX5_scan 39 = .ok (.dup, 1) := by decide +kernel
theorem dX5_scan_40 : decode cX5_scan 40 = .ok (.ldc 219, 2) := by decide +kernel
theorem dX5_scan_42 : decode cX5_scan 42 = .ok (.invokespecial 118, 3) := by decide +kernel
theorem dX5_scan_45 : decode cX5_scan 45 = .ok (.athrow, 1) := by decide +kernel
theorem dX5_scan_46 : decode cX5_scan 46 = .ok (.aload_n 0, 1) := by decide +kernel
theorem dX5_scan_47 : decode cX5_scan 47 = .ok (.aload_n 3, 1) := by decide +kernel
theorem dX5_scan_48 : decode cX5_scan 48 = .ok (.getfield 96, 3) := by decide +kernel
theorem dX5_scan_51 : decode cX5_scan 51 = .ok (.invokevirtual 119, 3) := by decide +kernel
theorem dX5_scan_54 : decode cX5_scan 54 = .ok (.iconst 0, 1) := by decide +kernel
theorem dX5_scan_55 : decode cX5_scan 55 = .ok (.istore 4, 2) := by decide +kernel
theorem dX5_scan_57 : decode cX5_scan 57 = .ok (.iconst 0, 1) := by decide +kernel
theorem dX5_scan_58 : decode cX5_scan 58 = .ok (.istore 5, 2) := by decide +kernel
theorem dX5_scan_60 : decode cX5_scan 60 = .ok (.iload 5, 2) := by decide +kernel
theorem dX5_scan_62 : decode cX5_scan 62 = .ok (.aload_n 3, 1) := by decide +kernel
theorem dX5_scan_63 : decode cX5_scan 63 = .ok (.getfield 127, 3) := by decide +kernel
theorem dX5_scan_66 : decode cX5_scan 66 = .ok (.invokevirtual 39, 3) := by decide +kernel
theorem dX5_scan_69 : decode cX5_scan 69 = .ok (.if_icmp .ge 43, 3) := by decide +kernel
theorem dX5_scan_72 : decode cX5_scan 72 = .ok (.aload_n 0, 1) := by decide +kernel
theorem dX5_scan_73 : decode cX5_scan 73 = .ok (.aload_n 3, 1) := by decide +kernel
theorem dX5_scan_74 : decode cX5_scan 74 = .ok (.iload 5, 2) := by decide +kernel
theorem dX5_scan_76 : decode cX5_scan 76 = .ok (.invokevirtual 221, 3) := by decide +kernel
theorem dX5_scan_79 : decode cX5_scan 79 = .ok (.istore 6, 2) := by decide +kernel
theorem dX5_scan_81 : decode cX5_scan 81 = .ok (.aload_n 3, 1) := by decide +kernel
theorem dX5_scan_82 : decode cX5_scan 82 = .ok (.getfield 127, 3) := by decide +kernel
theorem dX5_scan_85 : decode cX5_scan 85 = .ok (.iload 5, 2) := by decide +kernel
theorem dX5_scan_87 : decode cX5_scan 87 = .ok (.invokevirtual 146, 3) := by decide +kernel
theorem dX5_scan_90 : decode cX5_scan 90 = .ok (.checkcast 75, 3) := by decide +kernel
theorem dX5_scan_93 : decode cX5_scan 93 = .ok (.iload_n 2, 1) := by decide +kernel
theorem dX5_scan_94 : decode cX5_scan 94 = .ok (.iload 6, 2) := by decide +kernel
theorem dX5_scan_96 : decode cX5_scan 96 = .ok (.invokevirtual 225, 3) := by decide +kernel
theorem dX5_scan_99 : decode cX5_scan 99 = .ok (.iload 4, 2) := by decide +kernel
theorem dX5_scan_101 : decode cX5_scan 101 = .ok (.iload 6, 2) := by decide +kernel
theorem dX5_scan_103 : decode cX5_scan 103 = .ok (.iadd, 1) := by decide +kernel
theorem dX5_scan_104 : decode cX5_scan 104 = .ok (.istore 4, 2) := by decide +kernel
theorem dX5_scan_106 : decode cX5_scan 106 = .ok (.iinc 5 1, 3) := by decide +kernel
theorem dX5_scan_109 : decode cX5_scan 109 = .ok (.goto (-49), 3) := by decide +kernel
theorem dX5_scan_112 : decode cX5_scan 112 = .ok (.iload 4, 2) := by decide +kernel
theorem dX5_scan_114 : decode cX5_scan 114 = .ok (.ireturn, 1) := by decide +kernel
theorem dX5_scanned_0 : decode cX5_scanned 0 = .ok (.aload_n 0, 1) := by decide +kernel
theorem dX5_scanned_1 : decode cX5_scanned 1 = .ok (.iload_n 1, 1) := by decide +kernel
theorem dX5_scanned_2 : decode cX5_scanned 2 = .ok (.invokevirtual 92, 3) := by decide +kernel
theorem dX5_scanned_5 : decode cX5_scanned 5 = .ok (.getfield 228, 3) := by decide +kernel
theorem dX5_scanned_8 : decode cX5_scanned 8 = .ok (.ireturn, 1) := by decide +kernel
theorem dX5_missed_0 : decode cX5_missed 0 = .ok (.aload_n 0, 1) := by decide +kernel
theorem dX5_missed_1 : decode cX5_missed 1 = .ok (.iload_n 1, 1) := by decide +kernel
theorem dX5_missed_2 : decode cX5_missed 2 = .ok (.invokevirtual 92, 3) := by decide +kernel
theorem dX5_missed_5 : decode cX5_missed 5 = .ok (.getfield 231, 3) := by decide +kernel
theorem dX5_missed_8 : decode cX5_missed 8 = .ok (.ireturn, 1) := by decide +kernel
theorem dX5_grade_0 : decode cX5_grade 0 = .ok (.aload_n 0, 1) := by decide +kernel
theorem dX5_grade_1 : decode cX5_grade 1 = .ok (.iload_n 1, 1) := by decide +kernel
theorem dX5_grade_2 : decode cX5_grade 2 = .ok (.invokevirtual 92, 3) := by decide +kernel
theorem dX5_grade_5 : decode cX5_grade 5 = .ok (.astore_n 3, 1) := by decide +kernel
theorem dX5_grade_6 : decode cX5_grade 6 = .ok (.iload_n 2, 1) := by decide +kernel
theorem dX5_grade_7 : decode cX5_grade 7 = .ok (.iconst (-1), 1) := by decide +kernel
theorem dX5_grade_8 : decode cX5_grade 8 = .ok (.if_icmp .lt 9, 3) := by decide +kernel
theorem dX5_grade_11 : decode cX5_grade 11 = .ok (.iload_n 2, 1) := by decide +kernel
theorem dX5_grade_12 : decode cX5_grade 12 = .ok (.bipush 99, 2) := by decide +kernel
theorem dX5_grade_14 : decode cX5_grade 14 = .ok (.if_icmp .le 13, 3) := by decide +kernel
theorem dX5_grade_17 : decode cX5_grade 17 = .ok (.new 101, 3) := by decide +kernel
theorem dX5_grade_20 : decode cX5_grade 20 = .ok (.dup, 1) := by decide +kernel
theorem dX5_grade_21 : decode cX5_grade 21 = .ok (.ldc 234, 2) := by decide +kernel
theorem dX5_grade_23 : decode cX5_grade 23 = .ok (.invokespecial 105, 3) := by decide +kernel
theorem dX5_grade_26 : decode cX5_grade 26 = .ok (.athrow, 1) := by decide +kernel
theorem dX5_grade_27 : decode cX5_grade 27 = .ok (.iload_n 2, 1) := by decide +kernel
theorem dX5_grade_28 : decode cX5_grade 28 = .ok (.iconst (-1), 1) := by decide +kernel
theorem dX5_grade_29 : decode cX5_grade 29 = .ok (.if_icmp .ne 21, 3) := by decide +kernel
theorem dX5_grade_32 : decode cX5_grade 32 = .ok (.aload_n 3, 1) := by decide +kernel
theorem dX5_grade_33 : decode cX5_grade 33 = .ok (.getfield 236, 3) := by decide +kernel
theorem dX5_grade_36 : decode cX5_grade 36 = .ok (.iconst (-1), 1) := by decide +kernel
theorem dX5_grade_37 : decode cX5_grade 37 = .ok (.if_icmp .ne 13, 3) := by decide +kernel
theorem dX5_grade_40 : decode cX5_grade 40 = .ok (.new 114, 3) := by decide +kernel
theorem dX5_grade_43 : decode cX5_grade 43 = .ok (.dup, 1) := by decide +kernel
theorem dX5_grade_44 : decode cX5_grade 44 = .ok (.ldc 239, 2) := by decide +kernel
theorem dX5_grade_46 : decode cX5_grade 46 = .ok (.invokespecial 118, 3) := by decide +kernel
theorem dX5_grade_49 : decode cX5_grade 49 = .ok (.athrow, 1) := by decide +kernel
theorem dX5_grade_50 : decode cX5_grade 50 = .ok (.aload_n 3, 1) := by decide +kernel
theorem dX5_grade_51 : decode cX5_grade 51 = .ok (.invokevirtual 241, 3) := by decide +kernel
theorem dX5_grade_54 : decode cX5_grade 54 = .ok (.istore 4, 2) := by decide +kernel
theorem dX5_grade_56 : decode cX5_grade 56 = .ok (.aload_n 3, 1) := by decide +kernel
theorem dX5_grade_57 : decode cX5_grade 57 = .ok (.iload_n 2, 1) := by decide +kernel
theorem dX5_grade_58 : decode cX5_grade 58 = .ok (.putfield 236, 3) := by decide +kernel
theorem dX5_grade_61 : decode cX5_grade 61 = .ok (.aload_n 3, 1) := by decide +kernel
theorem dX5_grade_62 : decode cX5_grade 62 = .ok (.aconst_null, 1) := by decide +kernel
theorem dX5_grade_63 : decode cX5_grade 63 = .ok (.putfield 244, 3) := by decide +kernel
theorem dX5_grade_66 : decode cX5_grade 66 = .ok (.iload_n 2, 1) := by decide +kernel
theorem dX5_grade_67 : decode cX5_grade 67 = .ok (.iconst (-1), 1) := by decide +kernel
theorem dX5_grade_68 : decode cX5_grade 68 = .ok (.if_icmp .ne 11, 3) := by decide +kernel
theorem dX5_grade_71 : decode cX5_grade 71 = .ok (.aload_n 3, 1) := by decide +kernel
theorem dX5_grade_72 : decode cX5_grade 72 = .ok (.getfield 100, 3) := by decide +kernel
theorem dX5_grade_75 : decode cX5_grade 75 = .ok (.aload_n 3, 1) := by decide +kernel
theorem dX5_grade_76 : decode cX5_grade 76 = .ok (.invokevirtual 248, 3) := by decide +kernel
theorem dX5_grade_79 : decode cX5_grade 79 = .ok (.iload 4, 2) := by decide +kernel
theorem dX5_grade_81 : decode cX5_grade 81 = .ok (.ireturn, 1) := by decide +kernel
theorem dX5_passOn_0 : decode cX5_passOn 0 = .ok (.aload_n 0, 1) := by decide +kernel
theorem dX5_passOn_1 : decode cX5_passOn 1 = .ok (.iload_n 1, 1) := by decide +kernel
theorem dX5_passOn_2 : decode cX5_passOn 2 = .ok (.invokevirtual 92, 3) := by decide +kernel
theorem dX5_passOn_5 : decode cX5_passOn 5 = .ok (.astore_n 2, 1) := by decide +kernel
theorem dX5_passOn_6 : decode cX5_passOn 6 = .ok (.aload_n 2, 1) := by decide +kernel
theorem dX5_passOn_7 : decode cX5_passOn 7 = .ok (.getfield 236, 3) := by decide +kernel
theorem dX5_passOn_10 : decode cX5_passOn 10 = .ok (.iconst (-1), 1) := by decide +kernel
theorem dX5_passOn_11 : decode cX5_passOn 11 = .ok (.if_icmp .ne 13, 3) := by decide +kernel
theorem dX5_passOn_14 : decode cX5_passOn 14 = .ok (.new 114, 3) := by decide +kernel
theorem dX5_passOn_17 : decode cX5_passOn 17 = .ok (.dup, 1) := by decide +kernel
theorem dX5_passOn_18 : decode cX5_passOn 18 = .ok (.ldc 239, 2) := by decide +kernel
theorem dX5_passOn_20 : decode cX5_passOn 20 = .ok (.invokespecial 118, 3) := by decide +kernel
theorem dX5_passOn_23 : decode cX5_passOn 23 = .ok (.athrow, 1) := by decide +kernel
theorem dX5_passOn_24 : decode cX5_passOn 24 = .ok (.aload_n 2, 1) := by decide +kernel
theorem dX5_passOn_25 : decode cX5_passOn 25 = .ok (.getfield 100, 3) := by decide +kernel
theorem dX5_passOn_28 : decode cX5_passOn 28 = .ok (.getfield 71, 3) := by decide +kernel
theorem dX5_passOn_31 : decode cX5_passOn 31 = .ok (.astore_n 3, 1) := by decide +kernel
theorem dX5_passOn_32 : decode cX5_passOn 32 = .ok (.iconst 0, 1) := by decide +kernel
theorem dX5_passOn_33 : decode cX5_passOn 33 = .ok (.istore 4, 2) := by decide +kernel
theorem dX5_passOn_35 : decode cX5_passOn 35 = .ok (.iconst 0, 1) := by decide +kernel
theorem dX5_passOn_36 : decode cX5_passOn 36 = .ok (.istore 5, 2) := by decide +kernel
theorem dX5_passOn_38 : decode cX5_passOn 38 = .ok (.iload 5, 2) := by decide +kernel
theorem dX5_passOn_40 : decode cX5_passOn 40 = .ok (.aload_n 3, 1) := by decide +kernel
theorem dX5_passOn_41 : decode cX5_passOn 41 = .ok (.invokevirtual 39, 3) := by decide +kernel
theorem dX5_passOn_44 : decode cX5_passOn 44 = .ok (.if_icmp .ge 56, 3) := by decide +kernel
theorem dX5_passOn_47 : decode cX5_passOn 47 = .ok (.aload_n 3, 1) := by decide +kernel
theorem dX5_passOn_48 : decode cX5_passOn 48 = .ok (.iload 5, 2) := by decide +kernel
theorem dX5_passOn_50 : decode cX5_passOn 50 = .ok (.invokevirtual 146, 3) := by decide +kernel
theorem dX5_passOn_53 : decode cX5_passOn 53 = .ok (.checkcast 75, 3) := by decide +kernel
theorem dX5_passOn_56 : decode cX5_passOn 56 = .ok (.astore 6, 2) := by decide +kernel
theorem dX5_passOn_58 : decode cX5_passOn 58 = .ok (.aload 6, 2) := by decide +kernel
theorem dX5_passOn_60 : decode cX5_passOn 60 = .ok (.aload_n 2, 1) := by decide +kernel
theorem dX5_passOn_61 : decode cX5_passOn 61 = .ok (.if_acmp .eq 33, 3) := by decide +kernel
theorem dX5_passOn_64 : decode cX5_passOn 64 = .ok (.aload 6, 2) := by decide +kernel
theorem dX5_passOn_66 : decode cX5_passOn 66 = .ok (.getfield 251, 3) := by decide +kernel
theorem dX5_passOn_69 : decode cX5_passOn 69 = .ok (.aload_n 2, 1) := by decide +kernel
theorem dX5_passOn_70 : decode cX5_passOn 70 = .ok (.getfield 251, 3) := by decide +kernel
theorem dX5_passOn_73 : decode cX5_passOn 73 = .ok (.if_icmp .ne 21, 3) := by decide +kernel
theorem dX5_passOn_76 : decode cX5_passOn 76 = .ok (.aload 6, 2) := by decide +kernel
theorem dX5_passOn_78 : decode cX5_passOn 78 = .ok (.getfield 236, 3) := by decide +kernel
theorem dX5_passOn_81 : decode cX5_passOn 81 = .ok (.iconst (-1), 1) := by decide +kernel
theorem dX5_passOn_82 : decode cX5_passOn 82 = .ok (.if_icmp .ne 12, 3) := by decide +kernel
theorem dX5_passOn_85 : decode cX5_passOn 85 = .ok (.aload 6, 2) := by decide +kernel
theorem dX5_passOn_87 : decode cX5_passOn 87 = .ok (.aload_n 2, 1) := by decide +kernel
theorem dX5_passOn_88 : decode cX5_passOn 88 = .ok (.putfield 244, 3) := by decide +kernel
theorem dX5_passOn_91 : decode cX5_passOn 91 = .ok (.iinc 4 1, 3) := by decide +kernel
theorem dX5_passOn_94 : decode cX5_passOn 94 = .ok (.iinc 5 1, 3) := by decide +kernel
theorem dX5_passOn_97 : decode cX5_passOn 97 = .ok (.goto (-59), 3) := by decide +kernel
theorem dX5_passOn_100 : decode cX5_passOn 100 = .ok (.iload 4, 2) := by decide +kernel
theorem dX5_passOn_102 : decode cX5_passOn 102 = .ok (.ireturn, 1) := by decide +kernel
theorem dX5_gradeOf_0 : decode cX5_gradeOf 0 = .ok (.aload_n 0, 1) := by decide +kernel
theorem dX5_gradeOf_1 : decode cX5_gradeOf 1 = .ok (.iload_n 1, 1) := by decide +kernel
theorem dX5_gradeOf_2 : decode cX5_gradeOf 2 = .ok (.invokevirtual 92, 3) := by decide +kernel
theorem dX5_gradeOf_5 : decode cX5_gradeOf 5 = .ok (.invokevirtual 241, 3) := by decide +kernel
theorem dX5_gradeOf_8 : decode cX5_gradeOf 8 = .ok (.ireturn, 1) := by decide +kernel
theorem dX5_gradeFrom_0 : decode cX5_gradeFrom 0 = .ok (.aload_n 0, 1) := by decide +kernel
theorem dX5_gradeFrom_1 : decode cX5_gradeFrom 1 = .ok (.iload_n 1, 1) := by decide +kernel
theorem dX5_gradeFrom_2 : decode cX5_gradeFrom 2 = .ok (.invokevirtual 92, 3) := by decide +kernel
theorem dX5_gradeFrom_5 : decode cX5_gradeFrom 5 = .ok (.astore_n 2, 1) := by decide +kernel
theorem dX5_gradeFrom_6 : decode cX5_gradeFrom 6 = .ok (.aload_n 2, 1) := by decide +kernel
theorem dX5_gradeFrom_7 : decode cX5_gradeFrom 7 = .ok (.getfield 236, 3) := by decide +kernel
theorem dX5_gradeFrom_10 : decode cX5_gradeFrom 10 = .ok (.iconst (-1), 1) := by decide +kernel
theorem dX5_gradeFrom_11 : decode cX5_gradeFrom 11 = .ok (.if_icmp .eq 8, 3) := by decide +kernel
theorem dX5_gradeFrom_14 : decode cX5_gradeFrom 14 = .ok (.aload_n 2, 1) := by decide +kernel
theorem dX5_gradeFrom_15 : decode cX5_gradeFrom 15 = .ok (.getfield 74, 3) := by decide +kernel
theorem dX5_gradeFrom_18 : decode cX5_gradeFrom 18 = .ok (.ireturn, 1) := by decide +kernel
theorem dX5_gradeFrom_19 : decode cX5_gradeFrom 19 = .ok (.aload_n 2, 1) := by decide +kernel
theorem dX5_gradeFrom_20 : decode cX5_gradeFrom 20 = .ok (.getfield 244, 3) := by decide +kernel
theorem dX5_gradeFrom_23 : decode cX5_gradeFrom 23 = .ok (.astore_n 3, 1) := by decide +kernel
theorem dX5_gradeFrom_24 : decode cX5_gradeFrom 24 = .ok (.aload_n 3, 1) := by decide +kernel
theorem dX5_gradeFrom_25 : decode cX5_gradeFrom 25 = .ok (.ifnonnull 7, 3) := by decide +kernel
theorem dX5_gradeFrom_28 : decode cX5_gradeFrom 28 = .ok (.iconst (-1), 1) := by decide +kernel
theorem dX5_gradeFrom_29 : decode cX5_gradeFrom 29 = .ok (.goto 7, 3) := by decide +kernel
theorem dX5_gradeFrom_32 : decode cX5_gradeFrom 32 = .ok (.aload_n 3, 1) := by decide +kernel
theorem dX5_gradeFrom_33 : decode cX5_gradeFrom 33 = .ok (.getfield 74, 3) := by decide +kernel
theorem dX5_gradeFrom_36 : decode cX5_gradeFrom 36 = .ok (.ireturn, 1) := by decide +kernel
theorem dX5_addVersion_0 : decode cX5_addVersion 0 = .ok (.aload_n 0, 1) := by decide +kernel
theorem dX5_addVersion_1 : decode cX5_addVersion 1 = .ok (.iload_n 1, 1) := by decide +kernel
theorem dX5_addVersion_2 : decode cX5_addVersion 2 = .ok (.invokevirtual 57, 3) := by decide +kernel
theorem dX5_addVersion_5 : decode cX5_addVersion 5 = .ok (.astore_n 3, 1) := by decide +kernel
theorem dX5_addVersion_6 : decode cX5_addVersion 6 = .ok (.iload_n 2, 1) := by decide +kernel
theorem dX5_addVersion_7 : decode cX5_addVersion 7 = .ok (.ifCond .lt 9, 3) := by decide +kernel
theorem dX5_addVersion_10 : decode cX5_addVersion 10 = .ok (.iload_n 2, 1) := by decide +kernel
theorem dX5_addVersion_11 : decode cX5_addVersion 11 = .ok (.bipush 7, 2) := by decide +kernel
theorem dX5_addVersion_13 : decode cX5_addVersion 13 = .ok (.if_icmp .le 13, 3) := by decide +kernel
theorem dX5_addVersion_16 : decode cX5_addVersion 16 = .ok (.new 101, 3) := by decide +kernel
theorem dX5_addVersion_19 : decode cX5_addVersion 19 = .ok (.dup, 1) := by decide +kernel
theorem dX5_addVersion_20 : decode cX5_addVersion 20 = .ok (.ldc 254, 2) := by decide +kernel
theorem dX5_addVersion_22 : decode cX5_addVersion 22 = .ok (.invokespecial 105, 3) := by decide +kernel
theorem dX5_addVersion_25 : decode cX5_addVersion 25 = .ok (.athrow, 1) := by decide +kernel
theorem dX5_addVersion_26 : decode cX5_addVersion 26 = .ok (.aload_n 0, 1) := by decide +kernel
theorem dX5_addVersion_27 : decode cX5_addVersion 27 = .ok (.aload_n 3, 1) := by decide +kernel
theorem dX5_addVersion_28 : decode cX5_addVersion 28 = .ok (.iload_n 2, 1) := by decide +kernel
theorem dX5_addVersion_29 : decode cX5_addVersion 29 = .ok (.invokevirtual 256, 3) := by decide +kernel
theorem dX5_addVersion_32 : decode cX5_addVersion 32 = .ok (.ifCond .eq 14, 3) := by decide +kernel
theorem dX5_addVersion_35 : decode cX5_addVersion 35 = .ok (.new 114, 3) := by decide +kernel
theorem dX5_addVersion_38 : decode cX5_addVersion 38 = .ok (.dup, 1) := by decide +kernel
theorem dX5_addVersion_39 : decode cX5_addVersion 39 = .ok (.ldc_w 260, 3) := by decide +kernel
theorem dX5_addVersion_42 : decode cX5_addVersion 42 = .ok (.invokespecial 118, 3) := by decide +kernel
theorem dX5_addVersion_45 : decode cX5_addVersion 45 = .ok (.athrow, 1) := by decide +kernel
theorem dX5_addVersion_46 : decode cX5_addVersion 46 = .ok (.aload_n 0, 1) := by decide +kernel
theorem dX5_addVersion_47 : decode cX5_addVersion 47 = .ok (.getfield 22, 3) := by decide +kernel
theorem dX5_addVersion_50 : decode cX5_addVersion 50 = .ok (.invokevirtual 39, 3) := by decide +kernel
theorem dX5_addVersion_53 : decode cX5_addVersion 53 = .ok (.bipush 10, 2) := by decide +kernel
theorem dX5_addVersion_55 : decode cX5_addVersion 55 = .ok (.if_icmp .lt 14, 3) := by decide +kernel
theorem dX5_addVersion_58 : decode cX5_addVersion 58 = .ok (.new 43, 3) := by decide +kernel
theorem dX5_addVersion_61 : decode cX5_addVersion 61 = .ok (.dup, 1) := by decide +kernel
theorem dX5_addVersion_62 : decode cX5_addVersion 62 = .ok (.ldc_w 262, 3) := by decide +kernel
theorem dX5_addVersion_65 : decode cX5_addVersion 65 = .ok (.invokespecial 47, 3) := by decide +kernel
theorem dX5_addVersion_68 : decode cX5_addVersion 68 = .ok (.athrow, 1) := by decide +kernel
theorem dX5_addVersion_69 : decode cX5_addVersion 69 = .ok (.aload_n 0, 1) := by decide +kernel
theorem dX5_addVersion_70 : decode cX5_addVersion 70 = .ok (.getfield 22, 3) := by decide +kernel
theorem dX5_addVersion_73 : decode cX5_addVersion 73 = .ok (.new 264, 3) := by decide +kernel
theorem dX5_addVersion_76 : decode cX5_addVersion 76 = .ok (.dup, 1) := by decide +kernel
theorem dX5_addVersion_77 : decode cX5_addVersion 77 = .ok (.aload_n 3, 1) := by decide +kernel
theorem dX5_addVersion_78 : decode cX5_addVersion 78 = .ok (.iload_n 2, 1) := by decide +kernel
theorem dX5_addVersion_79 : decode cX5_addVersion 79 = .ok (.invokespecial 266, 3) := by decide +kernel
theorem dX5_addVersion_82 : decode cX5_addVersion 82 = .ok (.invokevirtual 53, 3) := by decide +kernel
theorem dX5_addVersion_85 : decode cX5_addVersion 85 = .ok (.pop, 1) := by decide +kernel
theorem dX5_addVersion_86 : decode cX5_addVersion 86 = .ok (.aload_n 0, 1) := by decide +kernel
theorem dX5_addVersion_87 : decode cX5_addVersion 87 = .ok (.getfield 22, 3) := by decide +kernel
theorem dX5_addVersion_90 : decode cX5_addVersion 90 = .ok (.invokevirtual 39, 3) := by decide +kernel
theorem dX5_addVersion_93 : decode cX5_addVersion 93 = .ok (.iconst 1, 1) := by decide +kernel
theorem dX5_addVersion_94 : decode cX5_addVersion 94 = .ok (.isub, 1) := by decide +kernel
theorem dX5_addVersion_95 : decode cX5_addVersion 95 = .ok (.ireturn, 1) := by decide +kernel
theorem dX5_leaveOut_0 : decode cX5_leaveOut 0 = .ok (.aload_n 0, 1) := by decide +kernel
theorem dX5_leaveOut_1 : decode cX5_leaveOut 1 = .ok (.iload_n 1, 1) := by decide +kernel
theorem dX5_leaveOut_2 : decode cX5_leaveOut 2 = .ok (.invokevirtual 269, 3) := by decide +kernel
theorem dX5_leaveOut_5 : decode cX5_leaveOut 5 = .ok (.astore 5, 2) := by decide +kernel
theorem dX5_leaveOut_7 : decode cX5_leaveOut 7 = .ok (.iload_n 2, 1) := by decide +kernel
theorem dX5_leaveOut_8 : decode cX5_leaveOut 8 = .ok (.ifCond .lt 20, 3) := by decide +kernel
theorem dX5_leaveOut_11 : decode cX5_leaveOut 11 = .ok (.iload_n 3, 1) := by decide +kernel
theorem dX5_leaveOut_12 : decode cX5_leaveOut 12 = .ok (.iload_n 2, 1) := by decide +kernel
theorem dX5_leaveOut_13 : decode cX5_leaveOut 13 = .ok (.if_icmp .le 15, 3) := by decide +kernel
theorem dX5_leaveOut_16 : decode cX5_leaveOut 16 = .ok (.iload_n 3, 1) := by decide +kernel
theorem dX5_leaveOut_17 : decode cX5_leaveOut 17 = .ok (.aload 5, 2) := by decide +kernel
theorem dX5_leaveOut_19 : decode cX5_leaveOut 19 = .ok (.getfield 273, 3) := by decide +kernel
theorem dX5_leaveOut_22 : decode cX5_leaveOut 22 = .ok (.invokevirtual 274, 3) := by decide +kernel
theorem dX5_leaveOut_25 : decode cX5_leaveOut 25 = .ok (.if_icmp .le 14, 3) := by decide +kernel
theorem dX5_leaveOut_28 : decode cX5_leaveOut 28 = .ok (.new 101, 3) := by decide +kernel
theorem dX5_leaveOut_31 : decode cX5_leaveOut 31 = .ok (.dup, 1) := by decide +kernel
theorem dX5_leaveOut_32 : decode cX5_leaveOut 32 = .ok (.ldc_w 277, 3) := by decide +kernel
theorem dX5_leaveOut_35 : decode cX5_leaveOut 35 = .ok (.invokespecial 105, 3) := by decide +kernel
theorem dX5_leaveOut_38 : decode cX5_leaveOut 38 = .ok (.athrow, 1) := by decide +kernel
theorem dX5_leaveOut_39 : decode cX5_leaveOut 39 = .ok (.aload 5, 2) := by decide +kernel
theorem dX5_leaveOut_41 : decode cX5_leaveOut 41 = .ok (.getfield 273, 3) := by decide +kernel
theorem dX5_leaveOut_44 : decode cX5_leaveOut 44 = .ok (.getfield 71, 3) := by decide +kernel
theorem dX5_leaveOut_47 : decode cX5_leaveOut 47 = .ok (.astore 6, 2) := by decide +kernel
theorem dX5_leaveOut_49 : decode cX5_leaveOut 49 = .ok (.iconst 0, 1) := by decide +kernel
theorem dX5_leaveOut_50 : decode cX5_leaveOut 50 = .ok (.istore 7, 2) := by decide +kernel
theorem dX5_leaveOut_52 : decode cX5_leaveOut 52 = .ok (.iconst 0, 1) := by decide +kernel
theorem dX5_leaveOut_53 : decode cX5_leaveOut 53 = .ok (.istore 8, 2) := by decide +kernel
theorem dX5_leaveOut_55 : decode cX5_leaveOut 55 = .ok (.iconst 0, 1) := by decide +kernel
theorem dX5_leaveOut_56 : decode cX5_leaveOut 56 = .ok (.istore 9, 2) := by decide +kernel
theorem dX5_leaveOut_58 : decode cX5_leaveOut 58 = .ok (.iload 9, 2) := by decide +kernel
theorem dX5_leaveOut_60 : decode cX5_leaveOut 60 = .ok (.aload 6, 2) := by decide +kernel
theorem dX5_leaveOut_62 : decode cX5_leaveOut 62 = .ok (.invokevirtual 39, 3) := by decide +kernel
theorem dX5_leaveOut_65 : decode cX5_leaveOut 65 = .ok (.if_icmp .ge 66, 3) := by decide +kernel
theorem dX5_leaveOut_68 : decode cX5_leaveOut 68 = .ok (.aload 6, 2) := by decide +kernel
theorem dX5_leaveOut_70 : decode cX5_leaveOut 70 = .ok (.iload 9, 2) := by decide +kernel
theorem dX5_leaveOut_72 : decode cX5_leaveOut 72 = .ok (.invokevirtual 146, 3) := by decide +kernel
theorem dX5_leaveOut_75 : decode cX5_leaveOut 75 = .ok (.checkcast 75, 3) := by decide +kernel
theorem dX5_leaveOut_78 : decode cX5_leaveOut 78 = .ok (.astore 10, 2) := by decide +kernel
theorem dX5_leaveOut_80 : decode cX5_leaveOut 80 = .ok (.aload 10, 2) := by decide +kernel
theorem dX5_leaveOut_82 : decode cX5_leaveOut 82 = .ok (.invokevirtual 171, 3) := by decide +kernel
theorem dX5_leaveOut_85 : decode cX5_leaveOut 85 = .ok (.istore 11, 2) := by decide +kernel
theorem dX5_leaveOut_87 : decode cX5_leaveOut 87 = .ok (.iload 7, 2) := by decide +kernel
theorem dX5_leaveOut_89 : decode cX5_leaveOut 89 = .ok (.aload 5, 2) := by decide +kernel
theorem dX5_leaveOut_91 : decode cX5_leaveOut 91 = .ok (.aload 10, 2) := by decide +kernel
theorem dX5_leaveOut_93 : decode cX5_leaveOut 93 = .ok (.iload_n 2, 1) := by decide +kernel
theorem dX5_leaveOut_94 : decode cX5_leaveOut 94 = .ok (.iload 8, 2) := by decide +kernel
theorem dX5_leaveOut_96 : decode cX5_leaveOut 96 = .ok (.isub, 1) := by decide +kernel
theorem dX5_leaveOut_97 : decode cX5_leaveOut 97 = .ok (.iconst 0, 1) := by decide +kernel
theorem dX5_leaveOut_98 : decode cX5_leaveOut 98 = .ok (.invokestatic 279, 3) := by decide +kernel
theorem dX5_leaveOut_101 : decode cX5_leaveOut 101 = .ok (.iload_n 3, 1) := by decide +kernel
theorem dX5_leaveOut_102 : decode cX5_leaveOut 102 = .ok (.iload 8, 2) := by decide +kernel
theorem dX5_leaveOut_104 : decode cX5_leaveOut 104 = .ok (.isub, 1) := by decide +kernel
theorem dX5_leaveOut_105 : decode cX5_leaveOut 105 = .ok (.iload 11, 2) := by decide +kernel
theorem dX5_leaveOut_107 : decode cX5_leaveOut 107 = .ok (.invokestatic 285, 3) := by decide +kernel
theorem dX5_leaveOut_110 : decode cX5_leaveOut 110 = .ok (.iload 4, 2) := by decide +kernel
theorem dX5_leaveOut_112 : decode cX5_leaveOut 112 = .ok (.invokevirtual 288, 3) := by decide +kernel
theorem dX5_leaveOut_115 : decode cX5_leaveOut 115 = .ok (.iadd, 1) := by decide +kernel
theorem dX5_leaveOut_116 : decode cX5_leaveOut 116 = .ok (.istore 7, 2) := by decide +kernel
theorem dX5_leaveOut_118 : decode cX5_leaveOut 118 = .ok (.iload 8, 2) := by decide +kernel
theorem dX5_leaveOut_120 : decode cX5_leaveOut 120 = .ok (.iload 11, 2) := by decide +kernel
theorem dX5_leaveOut_122 : decode cX5_leaveOut 122 = .ok (.iadd, 1) := by decide +kernel
theorem dX5_leaveOut_123 : decode cX5_leaveOut 123 = .ok (.istore 8, 2) := by decide +kernel
theorem dX5_leaveOut_125 : decode cX5_leaveOut 125 = .ok (.iinc 9 1, 3) := by decide +kernel
theorem dX5_leaveOut_128 : decode cX5_leaveOut 128 = .ok (.goto (-70), 3) := by decide +kernel
theorem dX5_leaveOut_131 : decode cX5_leaveOut 131 = .ok (.iload 7, 2) := by decide +kernel
theorem dX5_leaveOut_133 : decode cX5_leaveOut 133 = .ok (.ireturn, 1) := by decide +kernel
theorem dX5_frames_0 : decode cX5_frames 0 = .ok (.aload_n 0, 1) := by decide +kernel
theorem dX5_frames_1 : decode cX5_frames 1 = .ok (.iload_n 1, 1) := by decide +kernel
theorem dX5_frames_2 : decode cX5_frames 2 = .ok (.invokevirtual 269, 3) := by decide +kernel
theorem dX5_frames_5 : decode cX5_frames 5 = .ok (.invokevirtual 292, 3) := by decide +kernel
theorem dX5_frames_8 : decode cX5_frames 8 = .ok (.ireturn, 1) := by decide +kernel
theorem dX5_lend_0 : decode cX5_lend 0 = .ok (.aload_n 0, 1) := by decide +kernel
theorem dX5_lend_1 : decode cX5_lend 1 = .ok (.iload_n 1, 1) := by decide +kernel
theorem dX5_lend_2 : decode cX5_lend 2 = .ok (.invokevirtual 269, 3) := by decide +kernel
theorem dX5_lend_5 : decode cX5_lend 5 = .ok (.getfield 273, 3) := by decide +kernel
theorem dX5_lend_8 : decode cX5_lend 8 = .ok (.astore 5, 2) := by decide +kernel
theorem dX5_lend_10 : decode cX5_lend 10 = .ok (.iload_n 2, 1) := by decide +kernel
theorem dX5_lend_11 : decode cX5_lend 11 = .ok (.iconst 1, 1) := by decide +kernel
theorem dX5_lend_12 : decode cX5_lend 12 = .ok (.if_icmp .lt 31, 3) := by decide +kernel
theorem dX5_lend_15 : decode cX5_lend 15 = .ok (.iload_n 2, 1) := by decide +kernel
theorem dX5_lend_16 : decode cX5_lend 16 = .ok (.bipush 9, 2) := by decide +kernel
theorem dX5_lend_18 : decode cX5_lend 18 = .ok (.if_icmp .gt 25, 3) := by decide +kernel
theorem dX5_lend_21 : decode cX5_lend 21 = .ok (.iload_n 3, 1) := by decide +kernel
theorem dX5_lend_22 : decode cX5_lend 22 = .ok (.ifCond .lt 21, 3) := by decide +kernel
theorem dX5_lend_25 : decode cX5_lend 25 = .ok (.iload_n 3, 1) := by decide +kernel
theorem dX5_lend_26 : decode cX5_lend 26 = .ok (.iconst 3, 1) := by decide +kernel
theorem dX5_lend_27 : decode cX5_lend 27 = .ok (.if_icmp .gt 16, 3) := by decide +kernel
theorem dX5_lend_30 : decode cX5_lend 30 = .ok (.iload 4, 2) := by decide +kernel
theorem dX5_lend_32 : decode cX5_lend 32 = .ok (.iconst 1, 1) := by decide +kernel
theorem dX5_lend_33 : decode cX5_lend 33 = .ok (.if_icmp .lt 10, 3) := by decide +kernel
theorem dX5_lend_36 : decode cX5_lend 36 = .ok (.iload 4, 2) := by decide +kernel
theorem dX5_lend_38 : decode cX5_lend 38 = .ok (.bipush 99, 2) := by decide +kernel
theorem dX5_lend_40 : decode cX5_lend 40 = .ok (.if_icmp .le 14, 3) := by decide +kernel
theorem dX5_lend_43 : decode cX5_lend 43 = .ok (.new 101, 3) := by decide +kernel
theorem dX5_lend_46 : decode cX5_lend 46 = .ok (.dup, 1) := by decide +kernel
theorem dX5_lend_47 : decode cX5_lend 47 = .ok (.ldc_w 295, 3) := by decide +kernel
theorem dX5_lend_50 : decode cX5_lend 50 = .ok (.invokespecial 105, 3) := by decide +kernel
theorem dX5_lend_53 : decode cX5_lend 53 = .ok (.athrow, 1) := by decide +kernel
theorem dX5_lend_54 : decode cX5_lend 54 = .ok (.aload_n 0, 1) := by decide +kernel
theorem dX5_lend_55 : decode cX5_lend 55 = .ok (.aload 5, 2) := by decide +kernel
theorem dX5_lend_57 : decode cX5_lend 57 = .ok (.invokevirtual 119, 3) := by decide +kernel
theorem dX5_lend_60 : decode cX5_lend 60 = .ok (.aload_n 0, 1) := by decide +kernel
theorem dX5_lend_61 : decode cX5_lend 61 = .ok (.aload 5, 2) := by decide +kernel
theorem dX5_lend_63 : decode cX5_lend 63 = .ok (.iload_n 2, 1) := by decide +kernel
theorem dX5_lend_64 : decode cX5_lend 64 = .ok (.iconst 1, 1) := by decide +kernel
theorem dX5_lend_65 : decode cX5_lend 65 = .ok (.iload_n 3, 1) := by decide +kernel
theorem dX5_lend_66 : decode cX5_lend 66 = .ok (.iadd, 1) := by decide +kernel
theorem dX5_lend_67 : decode cX5_lend 67 = .ok (.imul, 1) := by decide +kernel
theorem dX5_lend_68 : decode cX5_lend 68 = .ok (.invokevirtual 297, 3) := by decide +kernel
theorem dX5_lend_71 : decode cX5_lend 71 = .ok (.ifCond .ne 13, 3) := by decide +kernel
theorem dX5_lend_74 : decode cX5_lend 74 = .ok (.new 114, 3) := by decide +kernel
theorem dX5_lend_77 : decode cX5_lend 77 = .ok (.dup, 1) := by decide +kernel
theorem dX5_lend_78 : decode cX5_lend 78 = .ok (.ldc 193, 2) := by decide +kernel
theorem dX5_lend_80 : decode cX5_lend 80 = .ok (.invokespecial 118, 3) := by decide +kernel
theorem dX5_lend_83 : decode cX5_lend 83 = .ok (.athrow, 1) := by decide +kernel
theorem dX5_lend_84 : decode cX5_lend 84 = .ok (.aload_n 0, 1) := by decide +kernel
theorem dX5_lend_85 : decode cX5_lend 85 = .ok (.getfield 25, 3) := by decide +kernel
theorem dX5_lend_88 : decode cX5_lend 88 = .ok (.invokevirtual 39, 3) := by decide +kernel
theorem dX5_lend_91 : decode cX5_lend 91 = .ok (.bipush 20, 2) := by decide +kernel
theorem dX5_lend_93 : decode cX5_lend 93 = .ok (.if_icmp .lt 14, 3) := by decide +kernel
theorem dX5_lend_96 : decode cX5_lend 96 = .ok (.new 43, 3) := by decide +kernel
theorem dX5_lend_99 : decode cX5_lend 99 = .ok (.dup, 1) := by decide +kernel
theorem dX5_lend_100 : decode cX5_lend 100 = .ok (.ldc_w 300, 3) := by decide +kernel
theorem dX5_lend_103 : decode cX5_lend 103 = .ok (.invokespecial 47, 3) := by decide +kernel
theorem dX5_lend_106 : decode cX5_lend 106 = .ok (.athrow, 1) := by decide +kernel
theorem dX5_lend_107 : decode cX5_lend 107 = .ok (.aload_n 0, 1) := by decide +kernel
theorem dX5_lend_108 : decode cX5_lend 108 = .ok (.getfield 25, 3) := by decide +kernel
theorem dX5_lend_111 : decode cX5_lend 111 = .ok (.new 302, 3) := by decide +kernel
theorem dX5_lend_114 : decode cX5_lend 114 = .ok (.dup, 1) := by decide +kernel
theorem dX5_lend_115 : decode cX5_lend 115 = .ok (.aload 5, 2) := by decide +kernel
theorem dX5_lend_117 : decode cX5_lend 117 = .ok (.iload_n 2, 1) := by decide +kernel
theorem dX5_lend_118 : decode cX5_lend 118 = .ok (.iconst 1, 1) := by decide +kernel
theorem dX5_lend_119 : decode cX5_lend 119 = .ok (.iload_n 3, 1) := by decide +kernel
theorem dX5_lend_120 : decode cX5_lend 120 = .ok (.iadd, 1) := by decide +kernel
theorem dX5_lend_121 : decode cX5_lend 121 = .ok (.aload_n 0, 1) := by decide +kernel
theorem dX5_lend_122 : decode cX5_lend 122 = .ok (.getfield 32, 3) := by decide +kernel
theorem dX5_lend_125 : decode cX5_lend 125 = .ok (.iload 4, 2) := by decide +kernel
theorem dX5_lend_127 : decode cX5_lend 127 = .ok (.iadd, 1) := by decide +kernel
theorem dX5_lend_128 : decode cX5_lend 128 = .ok (.invokespecial 304, 3) := by decide +kernel
theorem dX5_lend_131 : decode cX5_lend 131 = .ok (.invokevirtual 53, 3) := by decide +kernel
theorem dX5_lend_134 : decode cX5_lend 134 = .ok (.pop, 1) := by decide +kernel
theorem dX5_lend_135 : decode cX5_lend 135 = .ok (.aload 5, 2) := by decide +kernel
theorem dX5_lend_137 : decode cX5_lend 137 = .ok (.iconst 1, 1) := by decide +kernel
theorem dX5_lend_138 : decode cX5_lend 138 = .ok (.putfield 307, 3) := by decide +kernel
theorem dX5_lend_141 : decode cX5_lend 141 = .ok (.aload_n 0, 1) := by decide +kernel
theorem dX5_lend_142 : decode cX5_lend 142 = .ok (.getfield 25, 3) := by decide +kernel
theorem dX5_lend_145 : decode cX5_lend 145 = .ok (.invokevirtual 39, 3) := by decide +kernel
theorem dX5_lend_148 : decode cX5_lend 148 = .ok (.iconst 1, 1) := by decide +kernel
theorem dX5_lend_149 : decode cX5_lend 149 = .ok (.isub, 1) := by decide +kernel
theorem dX5_lend_150 : decode cX5_lend 150 = .ok (.ireturn, 1) := by decide +kernel
theorem dX5_show_0 : decode cX5_show 0 = .ok (.aload_n 0, 1) := by decide +kernel
theorem dX5_show_1 : decode cX5_show 1 = .ok (.iload_n 1, 1) := by decide +kernel
theorem dX5_show_2 : decode cX5_show 2 = .ok (.invokevirtual 311, 3) := by decide +kernel
theorem dX5_show_5 : decode cX5_show 5 = .ok (.astore_n 2, 1) := by decide +kernel
theorem dX5_show_6 : decode cX5_show 6 = .ok (.aload_n 2, 1) := by decide +kernel
theorem dX5_show_7 : decode cX5_show 7 = .ok (.getfield 315, 3) := by decide +kernel
theorem dX5_show_10 : decode cX5_show 10 = .ok (.ifCond .ne 10, 3) := by decide +kernel
theorem dX5_show_13 : decode cX5_show 13 = .ok (.aload_n 2, 1) := by decide +kernel
theorem dX5_show_14 : decode cX5_show 14 = .ok (.getfield 318, 3) := by decide +kernel
theorem dX5_show_17 : decode cX5_show 17 = .ok (.ifCond .gt 14, 3) := by decide +kernel
theorem dX5_show_20 : decode cX5_show 20 = .ok (.new 114, 3) := by decide +kernel
theorem dX5_show_23 : decode cX5_show 23 = .ok (.dup, 1) := by decide +kernel
theorem dX5_show_24 : decode cX5_show 24 = .ok (.ldc_w 321, 3) := by decide +kernel
theorem dX5_show_27 : decode cX5_show 27 = .ok (.invokespecial 118, 3) := by decide +kernel
theorem dX5_show_30 : decode cX5_show 30 = .ok (.athrow, 1) := by decide +kernel
theorem dX5_show_31 : decode cX5_show 31 = .ok (.iconst 0, 1) := by decide +kernel
theorem dX5_show_32 : decode cX5_show 32 = .ok (.istore_n 3, 1) := by decide +kernel
theorem dX5_show_33 : decode cX5_show 33 = .ok (.iload_n 3, 1) := by decide +kernel
theorem dX5_show_34 : decode cX5_show 34 = .ok (.aload_n 0, 1) := by decide +kernel
theorem dX5_show_35 : decode cX5_show 35 = .ok (.getfield 19, 3) := by decide +kernel
theorem dX5_show_38 : decode cX5_show 38 = .ok (.invokevirtual 39, 3) := by decide +kernel
theorem dX5_show_41 : decode cX5_show 41 = .ok (.if_icmp .ge 44, 3) := by decide +kernel
theorem dX5_show_44 : decode cX5_show 44 = .ok (.aload_n 0, 1) := by decide +kernel
theorem dX5_show_45 : decode cX5_show 45 = .ok (.getfield 19, 3) := by decide +kernel
theorem dX5_show_48 : decode cX5_show 48 = .ok (.iload_n 3, 1) := by decide +kernel
theorem dX5_show_49 : decode cX5_show 49 = .ok (.invokevirtual 146, 3) := by decide +kernel
theorem dX5_show_52 : decode cX5_show 52 = .ok (.checkcast 86, 3) := by decide +kernel
theorem dX5_show_55 : decode cX5_show 55 = .ok (.astore 4, 2) := by decide +kernel
theorem dX5_show_57 : decode cX5_show 57 = .ok (.aload 4, 2) := by decide +kernel
theorem dX5_show_59 : decode cX5_show 59 = .ok (.getfield 96, 3) := by decide +kernel
theorem dX5_show_62 : decode cX5_show 62 = .ok (.aload_n 2, 1) := by decide +kernel
theorem dX5_show_63 : decode cX5_show 63 = .ok (.getfield 323, 3) := by decide +kernel
theorem dX5_show_66 : decode cX5_show 66 = .ok (.if_acmp .ne 13, 3) := by decide +kernel
theorem dX5_show_69 : decode cX5_show 69 = .ok (.aload_n 0, 1) := by decide +kernel
theorem dX5_show_70 : decode cX5_show 70 = .ok (.aload 4, 2) := by decide +kernel
theorem dX5_show_72 : decode cX5_show 72 = .ok (.aload_n 2, 1) := by decide +kernel
theorem dX5_show_73 : decode cX5_show 73 = .ok (.getfield 324, 3) := by decide +kernel
theorem dX5_show_76 : decode cX5_show 76 = .ok (.invokevirtual 195, 3) := by decide +kernel
theorem dX5_show_79 : decode cX5_show 79 = .ok (.iinc 3 1, 3) := by decide +kernel
theorem dX5_show_82 : decode cX5_show 82 = .ok (.goto (-49), 3) := by decide +kernel
theorem dX5_show_85 : decode cX5_show 85 = .ok (.aload_n 2, 1) := by decide +kernel
theorem dX5_show_86 : decode cX5_show 86 = .ok (.dup, 1) := by decide +kernel
theorem dX5_show_87 : decode cX5_show 87 = .ok (.getfield 318, 3) := by decide +kernel
theorem dX5_show_90 : decode cX5_show 90 = .ok (.iconst 1, 1) := by decide +kernel
theorem dX5_show_91 : decode cX5_show 91 = .ok (.isub, 1) := by decide +kernel
theorem dX5_show_92 : decode cX5_show 92 = .ok (.putfield 318, 3) := by decide +kernel
theorem dX5_show_95 : decode cX5_show 95 = .ok (.aload_n 2, 1) := by decide +kernel
theorem dX5_show_96 : decode cX5_show 96 = .ok (.getfield 318, 3) := by decide +kernel
theorem dX5_show_99 : decode cX5_show 99 = .ok (.ireturn, 1) := by decide +kernel
theorem dX5_giveBack_0 : decode cX5_giveBack 0 = .ok (.aload_n 0, 1) := by decide +kernel
theorem dX5_giveBack_1 : decode cX5_giveBack 1 = .ok (.iload_n 1, 1) := by decide +kernel
theorem dX5_giveBack_2 : decode cX5_giveBack 2 = .ok (.invokevirtual 311, 3) := by decide +kernel
theorem dX5_giveBack_5 : decode cX5_giveBack 5 = .ok (.astore_n 2, 1) := by decide +kernel
theorem dX5_giveBack_6 : decode cX5_giveBack 6 = .ok (.aload_n 2, 1) := by decide +kernel
theorem dX5_giveBack_7 : decode cX5_giveBack 7 = .ok (.getfield 315, 3) := by decide +kernel
theorem dX5_giveBack_10 : decode cX5_giveBack 10 = .ok (.ifCond .eq 14, 3) := by decide +kernel
theorem dX5_giveBack_13 : decode cX5_giveBack 13 = .ok (.new 114, 3) := by decide +kernel
theorem dX5_giveBack_16 : decode cX5_giveBack 16 = .ok (.dup, 1) := by decide +kernel
theorem dX5_giveBack_17 : decode cX5_giveBack 17 = .ok (.ldc_w 327, 3) := by decide +kernel
theorem dX5_giveBack_20 : decode cX5_giveBack 20 = .ok (.invokespecial 118, 3) := by decide +kernel
theorem dX5_giveBack_23 : decode cX5_giveBack 23 = .ok (.athrow, 1) := by decide +kernel
theorem dX5_giveBack_24 : decode cX5_giveBack 24 = .ok (.aload_n 2, 1) := by decide +kernel
theorem dX5_giveBack_25 : decode cX5_giveBack 25 = .ok (.iconst 1, 1) := by decide +kernel
theorem dX5_giveBack_26 : decode cX5_giveBack 26 = .ok (.putfield 315, 3) := by decide +kernel
theorem dX5_giveBack_29 : decode cX5_giveBack 29 = .ok (.aload_n 2, 1) := by decide +kernel
theorem dX5_giveBack_30 : decode cX5_giveBack 30 = .ok (.getfield 323, 3) := by decide +kernel
theorem dX5_giveBack_33 : decode cX5_giveBack 33 = .ok (.iconst 0, 1) := by decide +kernel
theorem dX5_giveBack_34 : decode cX5_giveBack 34 = .ok (.putfield 307, 3) := by decide +kernel
theorem dX5_giveBack_37 : decode cX5_giveBack 37 = .ok (.aload_n 0, 1) := by decide +kernel
theorem dX5_giveBack_38 : decode cX5_giveBack 38 = .ok (.getfield 32, 3) := by decide +kernel
theorem dX5_giveBack_41 : decode cX5_giveBack 41 = .ok (.aload_n 2, 1) := by decide +kernel
theorem dX5_giveBack_42 : decode cX5_giveBack 42 = .ok (.getfield 329, 3) := by decide +kernel
theorem dX5_giveBack_45 : decode cX5_giveBack 45 = .ok (.isub, 1) := by decide +kernel
theorem dX5_giveBack_46 : decode cX5_giveBack 46 = .ok (.iconst 0, 1) := by decide +kernel
theorem dX5_giveBack_47 : decode cX5_giveBack 47 = .ok (.invokestatic 279, 3) := by decide +kernel
theorem dX5_giveBack_50 : decode cX5_giveBack 50 = .ok (.ireturn, 1) := by decide +kernel
theorem dX5_advance_0 : decode cX5_advance 0 = .ok (.iload_n 1, 1) := by decide +kernel
theorem dX5_advance_1 : decode cX5_advance 1 = .ok (.iconst 1, 1) := by decide +kernel
theorem dX5_advance_2 : decode cX5_advance 2 = .ok (.if_icmp .lt 9, 3) := by decide +kernel
theorem dX5_advance_5 : decode cX5_advance 5 = .ok (.iload_n 1, 1) := by decide +kernel
theorem dX5_advance_6 : decode cX5_advance 6 = .ok (.bipush 99, 2) := by decide +kernel
theorem dX5_advance_8 : decode cX5_advance 8 = .ok (.if_icmp .le 14, 3) := by decide +kernel
theorem dX5_advance_11 : decode cX5_advance 11 = .ok (.new 101, 3) := by decide +kernel
theorem dX5_advance_14 : decode cX5_advance 14 = .ok (.dup, 1) := by decide +kernel
theorem dX5_advance_15 : decode cX5_advance 15 = .ok (.ldc_w 332, 3) := by decide +kernel
theorem dX5_advance_18 : decode cX5_advance 18 = .ok (.invokespecial 105, 3) := by decide +kernel
theorem dX5_advance_21 : decode cX5_advance 21 = .ok (.athrow, 1) := by decide +kernel
theorem dX5_advance_22 : decode cX5_advance 22 = .ok (.aload_n 0, 1) := by decide +kernel
theorem dX5_advance_23 : decode cX5_advance 23 = .ok (.dup, 1) := by decide +kernel
theorem dX5_advance_24 : decode cX5_advance 24 = .ok (.getfield 32, 3) := by decide +kernel
theorem dX5_advance_27 : decode cX5_advance 27 = .ok (.iload_n 1, 1) := by decide +kernel
theorem dX5_advance_28 : decode cX5_advance 28 = .ok (.iadd, 1) := by decide +kernel
theorem dX5_advance_29 : decode cX5_advance 29 = .ok (.putfield 32, 3) := by decide +kernel
theorem dX5_advance_32 : decode cX5_advance 32 = .ok (.iconst 0, 1) := by decide +kernel
theorem dX5_advance_33 : decode cX5_advance 33 = .ok (.istore_n 2, 1) := by decide +kernel
theorem dX5_advance_34 : decode cX5_advance 34 = .ok (.iconst 0, 1) := by decide +kernel
theorem dX5_advance_35 : decode cX5_advance 35 = .ok (.istore_n 3, 1) := by decide +kernel
theorem dX5_advance_36 : decode cX5_advance 36 = .ok (.iload_n 3, 1) := by decide +kernel
theorem dX5_advance_37 : decode cX5_advance 37 = .ok (.aload_n 0, 1) := by decide +kernel
theorem dX5_advance_38 : decode cX5_advance 38 = .ok (.getfield 25, 3) := by decide +kernel
theorem dX5_advance_41 : decode cX5_advance 41 = .ok (.invokevirtual 39, 3) := by decide +kernel
theorem dX5_advance_44 : decode cX5_advance 44 = .ok (.if_icmp .ge 45, 3) := by decide +kernel
theorem dX5_advance_47 : decode cX5_advance 47 = .ok (.aload_n 0, 1) := by decide +kernel
theorem dX5_advance_48 : decode cX5_advance 48 = .ok (.getfield 25, 3) := by decide +kernel
theorem dX5_advance_51 : decode cX5_advance 51 = .ok (.iload_n 3, 1) := by decide +kernel
theorem dX5_advance_52 : decode cX5_advance 52 = .ok (.invokevirtual 146, 3) := by decide +kernel
theorem dX5_advance_55 : decode cX5_advance 55 = .ok (.checkcast 302, 3) := by decide +kernel
theorem dX5_advance_58 : decode cX5_advance 58 = .ok (.astore 4, 2) := by decide +kernel
theorem dX5_advance_60 : decode cX5_advance 60 = .ok (.aload 4, 2) := by decide +kernel
theorem dX5_advance_62 : decode cX5_advance 62 = .ok (.getfield 315, 3) := by decide +kernel
theorem dX5_advance_65 : decode cX5_advance 65 = .ok (.ifCond .ne 18, 3) := by decide +kernel
theorem dX5_advance_68 : decode cX5_advance 68 = .ok (.aload_n 0, 1) := by decide +kernel
theorem dX5_advance_69 : decode cX5_advance 69 = .ok (.getfield 32, 3) := by decide +kernel
theorem dX5_advance_72 : decode cX5_advance 72 = .ok (.aload 4, 2) := by decide +kernel
theorem dX5_advance_74 : decode cX5_advance 74 = .ok (.getfield 329, 3) := by decide +kernel
theorem dX5_advance_77 : decode cX5_advance 77 = .ok (.if_icmp .le 6, 3) := by decide +kernel
theorem dX5_advance_80 : decode cX5_advance 80 = .ok (.iinc 2 1, 3) := by decide +kernel
theorem dX5_advance_83 : decode cX5_advance 83 = .ok (.iinc 3 1, 3) := by decide +kernel
theorem dX5_advance_86 : decode cX5_advance 86 = .ok (.goto (-50), 3) := by decide +kernel
theorem dX5_advance_89 : decode cX5_advance 89 = .ok (.iload_n 2, 1) := by decide +kernel
theorem dX5_advance_90 : decode cX5_advance 90 = .ok (.ireturn, 1) := by decide +kernel
theorem dX5_shown_0 : decode cX5_shown 0 = .ok (.aload_n 0, 1) := by decide +kernel
theorem dX5_shown_1 : decode cX5_shown 1 = .ok (.getfield 35, 3) := by decide +kernel
theorem dX5_shown_4 : decode cX5_shown 4 = .ok (.lreturn, 1) := by decide +kernel
theorem dX5_keptShare_0 : decode cX5_keptShare 0 = .ok (.aload_n 0, 1) := by decide +kernel
theorem dX5_keptShare_1 : decode cX5_keptShare 1 = .ok (.getfield 16, 3) := by decide +kernel
theorem dX5_keptShare_4 : decode cX5_keptShare 4 = .ok (.invokevirtual 39, 3) := by decide +kernel
theorem dX5_keptShare_7 : decode cX5_keptShare 7 = .ok (.istore_n 1, 1) := by decide +kernel
theorem dX5_keptShare_8 : decode cX5_keptShare 8 = .ok (.iload_n 1, 1) := by decide +kernel
theorem dX5_keptShare_9 : decode cX5_keptShare 9 = .ok (.ifCond .ne 14, 3) := by decide +kernel
theorem dX5_keptShare_12 : decode cX5_keptShare 12 = .ok (.new 334, 3) := by decide +kernel
theorem dX5_keptShare_15 : decode cX5_keptShare 15 = .ok (.dup, 1) := by decide +kernel
theorem dX5_keptShare_16 : decode cX5_keptShare 16 = .ok (.ldc_w 336, 3) := by decide +kernel
theorem dX5_keptShare_19 : decode cX5_keptShare 19 = .ok (.invokespecial 338, 3) := by decide +kernel
theorem dX5_keptShare_22 : decode cX5_keptShare 22 = .ok (.athrow, 1) := by decide +kernel
theorem dX5_keptShare_23 : decode cX5_keptShare 23 = .ok (.iconst 0, 1) := by decide +kernel
theorem dX5_keptShare_24 : decode cX5_keptShare 24 = .ok (.istore_n 2, 1) := by decide +kernel
theorem dX5_keptShare_25 : decode cX5_keptShare 25 = .ok (.iconst 0, 1) := by decide +kernel
theorem dX5_keptShare_26 : decode cX5_keptShare 26 = .ok (.istore_n 3, 1) := by decide +kernel
theorem dX5_keptShare_27 : decode cX5_keptShare 27 = .ok (.iload_n 3, 1) := by decide +kernel
theorem dX5_keptShare_28 : decode cX5_keptShare 28 = .ok (.iload_n 1, 1) := by decide +kernel
theorem dX5_keptShare_29 : decode cX5_keptShare 29 = .ok (.if_icmp .ge 29, 3) := by decide +kernel
theorem dX5_keptShare_32 : decode cX5_keptShare 32 = .ok (.aload_n 0, 1) := by decide +kernel
theorem dX5_keptShare_33 : decode cX5_keptShare 33 = .ok (.getfield 16, 3) := by decide +kernel
theorem dX5_keptShare_36 : decode cX5_keptShare 36 = .ok (.iload_n 3, 1) := by decide +kernel
theorem dX5_keptShare_37 : decode cX5_keptShare 37 = .ok (.invokevirtual 146, 3) := by decide +kernel
theorem dX5_keptShare_40 : decode cX5_keptShare 40 = .ok (.checkcast 75, 3) := by decide +kernel
theorem dX5_keptShare_43 : decode cX5_keptShare 43 = .ok (.invokevirtual 106, 3) := by decide +kernel
theorem dX5_keptShare_46 : decode cX5_keptShare 46 = .ok (.ifCond .ne 6, 3) := by decide +kernel
theorem dX5_keptShare_49 : decode cX5_keptShare 49 = .ok (.iinc 2 1, 3) := by decide +kernel
theorem dX5_keptShare_52 : decode cX5_keptShare 52 = .ok (.iinc 3 1, 3) := by decide +kernel
theorem dX5_keptShare_55 : decode cX5_keptShare 55 = .ok (.goto (-28), 3) := by decide +kernel
theorem dX5_keptShare_58 : decode cX5_keptShare 58 = .ok (.iload_n 2, 1) := by decide +kernel
theorem dX5_keptShare_59 : decode cX5_keptShare 59 = .ok (.i2f, 1) := by decide +kernel
theorem dX5_keptShare_60 : decode cX5_keptShare 60 = .ok (.iload_n 1, 1) := by decide +kernel
theorem dX5_keptShare_61 : decode cX5_keptShare 61 = .ok (.i2f, 1) := by decide +kernel
theorem dX5_keptShare_62 : decode cX5_keptShare 62 = .ok (.fdiv, 1) := by decide +kernel
theorem dX5_keptShare_63 : decode cX5_keptShare 63 = .ok (.freturn, 1) := by decide +kernel
theorem dX5_meanWear_0 : decode cX5_meanWear 0 = .ok (.iconst 0, 1) := by decide +kernel
theorem dX5_meanWear_1 : decode cX5_meanWear 1 = .ok (.istore_n 1, 1) := by decide +kernel
theorem dX5_meanWear_2 : decode cX5_meanWear 2 = .ok (.iconst 0, 1) := by decide +kernel
theorem dX5_meanWear_3 : decode cX5_meanWear 3 = .ok (.istore_n 2, 1) := by decide +kernel
theorem dX5_meanWear_4 : decode cX5_meanWear 4 = .ok (.iconst 0, 1) := by decide +kernel
theorem dX5_meanWear_5 : decode cX5_meanWear 5 = .ok (.istore_n 3, 1) := by decide +kernel
theorem dX5_meanWear_6 : decode cX5_meanWear 6 = .ok (.iload_n 3, 1) := by decide +kernel
theorem dX5_meanWear_7 : decode cX5_meanWear 7 = .ok (.aload_n 0, 1) := by decide +kernel
theorem dX5_meanWear_8 : decode cX5_meanWear 8 = .ok (.getfield 19, 3) := by decide +kernel
theorem dX5_meanWear_11 : decode cX5_meanWear 11 = .ok (.invokevirtual 39, 3) := by decide +kernel
theorem dX5_meanWear_14 : decode cX5_meanWear 14 = .ok (.if_icmp .ge 38, 3) := by decide +kernel
theorem dX5_meanWear_17 : decode cX5_meanWear 17 = .ok (.aload_n 0, 1) := by decide +kernel
theorem dX5_meanWear_18 : decode cX5_meanWear 18 = .ok (.getfield 19, 3) := by decide +kernel
theorem dX5_meanWear_21 : decode cX5_meanWear 21 = .ok (.iload_n 3, 1) := by decide +kernel
theorem dX5_meanWear_22 : decode cX5_meanWear 22 = .ok (.invokevirtual 146, 3) := by decide +kernel
theorem dX5_meanWear_25 : decode cX5_meanWear 25 = .ok (.checkcast 86, 3) := by decide +kernel
theorem dX5_meanWear_28 : decode cX5_meanWear 28 = .ok (.astore 4, 2) := by decide +kernel
theorem dX5_meanWear_30 : decode cX5_meanWear 30 = .ok (.iload_n 1, 1) := by decide +kernel
theorem dX5_meanWear_31 : decode cX5_meanWear 31 = .ok (.aload 4, 2) := by decide +kernel
theorem dX5_meanWear_33 : decode cX5_meanWear 33 = .ok (.invokevirtual 339, 3) := by decide +kernel
theorem dX5_meanWear_36 : decode cX5_meanWear 36 = .ok (.iadd, 1) := by decide +kernel
theorem dX5_meanWear_37 : decode cX5_meanWear 37 = .ok (.istore_n 1, 1) := by decide +kernel
theorem dX5_meanWear_38 : decode cX5_meanWear 38 = .ok (.iload_n 2, 1) := by decide +kernel
theorem dX5_meanWear_39 : decode cX5_meanWear 39 = .ok (.aload 4, 2) := by decide +kernel
theorem dX5_meanWear_41 : decode cX5_meanWear 41 = .ok (.invokevirtual 342, 3) := by decide +kernel
theorem dX5_meanWear_44 : decode cX5_meanWear 44 = .ok (.iadd, 1) := by decide +kernel
theorem dX5_meanWear_45 : decode cX5_meanWear 45 = .ok (.istore_n 2, 1) := by decide +kernel
theorem dX5_meanWear_46 : decode cX5_meanWear 46 = .ok (.iinc 3 1, 3) := by decide +kernel
theorem dX5_meanWear_49 : decode cX5_meanWear 49 = .ok (.goto (-43), 3) := by decide +kernel
theorem dX5_meanWear_52 : decode cX5_meanWear 52 = .ok (.iload_n 2, 1) := by decide +kernel
theorem dX5_meanWear_53 : decode cX5_meanWear 53 = .ok (.ifCond .ne 14, 3) := by decide +kernel
theorem dX5_meanWear_56 : decode cX5_meanWear 56 = .ok (.new 334, 3) := by decide +kernel
theorem dX5_meanWear_59 : decode cX5_meanWear 59 = .ok (.dup, 1) := by decide +kernel
theorem dX5_meanWear_60 : decode cX5_meanWear 60 = .ok (.ldc_w 345, 3) := by decide +kernel
theorem dX5_meanWear_63 : decode cX5_meanWear 63 = .ok (.invokespecial 338, 3) := by decide +kernel
theorem dX5_meanWear_66 : decode cX5_meanWear 66 = .ok (.athrow, 1) := by decide +kernel
theorem dX5_meanWear_67 : decode cX5_meanWear 67 = .ok (.iload_n 1, 1) := by decide +kernel
theorem dX5_meanWear_68 : decode cX5_meanWear 68 = .ok (.i2d, 1) := by decide +kernel
theorem dX5_meanWear_69 : decode cX5_meanWear 69 = .ok (.iload_n 2, 1) := by decide +kernel
theorem dX5_meanWear_70 : decode cX5_meanWear 70 = .ok (.i2d, 1) := by decide +kernel
theorem dX5_meanWear_71 : decode cX5_meanWear 71 = .ok (.ddiv, 1) := by decide +kernel
theorem dX5_meanWear_72 : decode cX5_meanWear 72 = .ok (.dreturn, 1) := by decide +kernel
theorem dX5_isSound_0 : decode cX5_isSound 0 = .ok (.aload_n 0, 1) := by decide +kernel
theorem dX5_isSound_1 : decode cX5_isSound 1 = .ok (.aload_n 0, 1) := by decide +kernel
theorem dX5_isSound_2 : decode cX5_isSound 2 = .ok (.getfield 28, 3) := by decide +kernel
theorem dX5_isSound_5 : decode cX5_isSound 5 = .ok (.invokevirtual 180, 3) := by decide +kernel
theorem dX5_isSound_8 : decode cX5_isSound 8 = .ok (.ifCond .eq 21, 3) := by decide +kernel
theorem dX5_isSound_11 : decode cX5_isSound 11 = .ok (.aload_n 0, 1) := by decide +kernel
theorem dX5_isSound_12 : decode cX5_isSound 12 = .ok (.invokevirtual 347, 3) := by decide +kernel
theorem dX5_isSound_15 : decode cX5_isSound 15 = .ok (.ifCond .eq 14, 3) := by decide +kernel
theorem dX5_isSound_18 : decode cX5_isSound 18 = .ok (.aload_n 0, 1) := by decide +kernel
theorem dX5_isSound_19 : decode cX5_isSound 19 = .ok (.invokevirtual 350, 3) := by decide +kernel
theorem dX5_isSound_22 : decode cX5_isSound 22 = .ok (.ifCond .eq 7, 3) := by decide +kernel
theorem dX5_isSound_25 : decode cX5_isSound 25 = .ok (.iconst 1, 1) := by decide +kernel
theorem dX5_isSound_26 : decode cX5_isSound 26 = .ok (.goto 4, 3) := by decide +kernel
theorem dX5_isSound_29 : decode cX5_isSound 29 = .ok (.iconst 0, 1) := by decide +kernel
theorem dX5_isSound_30 : decode cX5_isSound 30 = .ok (.ireturn, 1) := by decide +kernel
theorem dX5_filmNumbered_0 : decode cX5_filmNumbered 0 = .ok (.iload_n 1, 1) := by decide +kernel
theorem dX5_filmNumbered_1 : decode cX5_filmNumbered 1 = .ok (.ifCond .lt 14, 3) := by decide +kernel
theorem dX5_filmNumbered_4 : decode cX5_filmNumbered 4 = .ok (.iload_n 1, 1) := by decide +kernel
theorem dX5_filmNumbered_5 : decode cX5_filmNumbered 5 = .ok (.aload_n 0, 1) := by decide +kernel
theorem dX5_filmNumbered_6 : decode cX5_filmNumbered 6 = .ok (.getfield 12, 3) := by decide +kernel
theorem dX5_filmNumbered_9 : decode cX5_filmNumbered 9 = .ok (.invokevirtual 39, 3) := by decide +kernel
theorem dX5_filmNumbered_12 : decode cX5_filmNumbered 12 = .ok (.if_icmp .lt 14, 3) := by decide +kernel
theorem dX5_filmNumbered_15 : decode cX5_filmNumbered 15 = .ok (.new 128, 3) := by decide +kernel
theorem dX5_filmNumbered_18 : decode cX5_filmNumbered 18 = .ok (.dup, 1) := by decide +kernel
theorem dX5_filmNumbered_19 : decode cX5_filmNumbered 19 = .ok (.ldc_w 353, 3) := by decide +kernel
theorem dX5_filmNumbered_22 : decode cX5_filmNumbered 22 = .ok (.invokespecial 132, 3) := by decide +kernel
theorem dX5_filmNumbered_25 : decode cX5_filmNumbered 25 = .ok (.athrow, 1) := by decide +kernel
theorem dX5_filmNumbered_26 : decode cX5_filmNumbered 26 = .ok (.aload_n 0, 1) := by decide +kernel
theorem dX5_filmNumbered_27 : decode cX5_filmNumbered 27 = .ok (.getfield 12, 3) := by decide +kernel
theorem dX5_filmNumbered_30 : decode cX5_filmNumbered 30 = .ok (.iload_n 1, 1) := by decide +kernel
theorem dX5_filmNumbered_31 : decode cX5_filmNumbered 31 = .ok (.invokevirtual 146, 3) := by decide +kernel
theorem dX5_filmNumbered_34 : decode cX5_filmNumbered 34 = .ok (.checkcast 50, 3) := by decide +kernel
theorem dX5_filmNumbered_37 : decode cX5_filmNumbered 37 = .ok (.areturn, 1) := by decide +kernel
theorem dX5_shotNumbered_0 : decode cX5_shotNumbered 0 = .ok (.iload_n 1, 1) := by decide +kernel
theorem dX5_shotNumbered_1 : decode cX5_shotNumbered 1 = .ok (.ifCond .lt 14, 3) := by decide +kernel
theorem dX5_shotNumbered_4 : decode cX5_shotNumbered 4 = .ok (.iload_n 1, 1) := by decide +kernel
theorem dX5_shotNumbered_5 : decode cX5_shotNumbered 5 = .ok (.aload_n 0, 1) := by decide +kernel
theorem dX5_shotNumbered_6 : decode cX5_shotNumbered 6 = .ok (.getfield 16, 3) := by decide +kernel
theorem dX5_shotNumbered_9 : decode cX5_shotNumbered 9 = .ok (.invokevirtual 39, 3) := by decide +kernel
theorem dX5_shotNumbered_12 : decode cX5_shotNumbered 12 = .ok (.if_icmp .lt 14, 3) := by decide +kernel
theorem dX5_shotNumbered_15 : decode cX5_shotNumbered 15 = .ok (.new 128, 3) := by decide +kernel
theorem dX5_shotNumbered_18 : decode cX5_shotNumbered 18 = .ok (.dup, 1) := by decide +kernel
theorem dX5_shotNumbered_19 : decode cX5_shotNumbered 19 = .ok (.ldc_w 355, 3) := by decide +kernel
theorem dX5_shotNumbered_22 : decode cX5_shotNumbered 22 = .ok (.invokespecial 132, 3) := by decide +kernel
theorem dX5_shotNumbered_25 : decode cX5_shotNumbered 25 = .ok (.athrow, 1) := by decide +kernel
theorem dX5_shotNumbered_26 : decode cX5_shotNumbered 26 = .ok (.aload_n 0, 1) := by decide +kernel
theorem dX5_shotNumbered_27 : decode cX5_shotNumbered 27 = .ok (.getfield 16, 3) := by decide +kernel
theorem dX5_shotNumbered_30 : decode cX5_shotNumbered 30 = .ok (.iload_n 1, 1) := by decide +kernel
theorem dX5_shotNumbered_31 : decode cX5_shotNumbered 31 = .ok (.invokevirtual 146, 3) := by decide +kernel
theorem dX5_shotNumbered_34 : decode cX5_shotNumbered 34 = .ok (.checkcast 75, 3) := by decide +kernel
theorem dX5_shotNumbered_37 : decode cX5_shotNumbered 37 = .ok (.areturn, 1) := by decide +kernel
theorem dX5_reelNumbered_0 : decode cX5_reelNumbered 0 = .ok (.iload_n 1, 1) := by decide +kernel
theorem dX5_reelNumbered_1 : decode cX5_reelNumbered 1 = .ok (.ifCond .lt 14, 3) := by decide +kernel
theorem dX5_reelNumbered_4 : decode cX5_reelNumbered 4 = .ok (.iload_n 1, 1) := by decide +kernel
theorem dX5_reelNumbered_5 : decode cX5_reelNumbered 5 = .ok (.aload_n 0, 1) := by decide +kernel
theorem dX5_reelNumbered_6 : decode cX5_reelNumbered 6 = .ok (.getfield 19, 3) := by decide +kernel
theorem dX5_reelNumbered_9 : decode cX5_reelNumbered 9 = .ok (.invokevirtual 39, 3) := by decide +kernel
theorem dX5_reelNumbered_12 : decode cX5_reelNumbered 12 = .ok (.if_icmp .lt 14, 3) := by decide +kernel
theorem dX5_reelNumbered_15 : decode cX5_reelNumbered 15 = .ok (.new 128, 3) := by decide +kernel
theorem dX5_reelNumbered_18 : decode cX5_reelNumbered 18 = .ok (.dup, 1) := by decide +kernel
theorem dX5_reelNumbered_19 : decode cX5_reelNumbered 19 = .ok (.ldc_w 357, 3) := by decide +kernel
theorem dX5_reelNumbered_22 : decode cX5_reelNumbered 22 = .ok (.invokespecial 132, 3) := by decide +kernel
theorem dX5_reelNumbered_25 : decode cX5_reelNumbered 25 = .ok (.athrow, 1) := by decide +kernel
theorem dX5_reelNumbered_26 : decode cX5_reelNumbered 26 = .ok (.aload_n 0, 1) := by decide +kernel
theorem dX5_reelNumbered_27 : decode cX5_reelNumbered 27 = .ok (.getfield 19, 3) := by decide +kernel
theorem dX5_reelNumbered_30 : decode cX5_reelNumbered 30 = .ok (.iload_n 1, 1) := by decide +kernel
theorem dX5_reelNumbered_31 : decode cX5_reelNumbered 31 = .ok (.invokevirtual 146, 3) := by decide +kernel
theorem dX5_reelNumbered_34 : decode cX5_reelNumbered 34 = .ok (.checkcast 86, 3) := by decide +kernel
theorem dX5_reelNumbered_37 : decode cX5_reelNumbered 37 = .ok (.areturn, 1) := by decide +kernel
theorem dX5_versionNumbered_0 : decode cX5_versionNumbered 0 = .ok (.iload_n 1, 1) := by decide +kernel
theorem dX5_versionNumbered_1 : decode cX5_versionNumbered 1 = .ok (.ifCond .lt 14, 3) := by decide +kernel
theorem dX5_versionNumbered_4 : decode cX5_versionNumbered 4 = .ok (.iload_n 1, 1) := by decide +kernel
theorem dX5_versionNumbered_5 : decode cX5_versionNumbered 5 = .ok (.aload_n 0, 1) := by decide +kernel
theorem dX5_versionNumbered_6 : decode cX5_versionNumbered 6 = .ok (.getfield 22, 3) := by decide +kernel
theorem dX5_versionNumbered_9 : decode cX5_versionNumbered 9 = .ok (.invokevirtual 39, 3) := by decide +kernel
theorem dX5_versionNumbered_12 : decode cX5_versionNumbered 12 = .ok (.if_icmp .lt 14, 3) := by decide +kernel
theorem dX5_versionNumbered_15 : decode cX5_versionNumbered 15 = .ok (.new 128, 3) := by decide +kernel
theorem dX5_versionNumbered_18 : decode cX5_versionNumbered 18 = .ok (.dup, 1) := by decide +kernel
theorem dX5_versionNumbered_19 : decode cX5_versionNumbered 19 = .ok (.ldc_w 359, 3) := by decide +kernel
theorem dX5_versionNumbered_22 : decode cX5_versionNumbered 22 = .ok (.invokespecial 132, 3) := by decide +kernel
theorem dX5_versionNumbered_25 : decode cX5_versionNumbered 25 = .ok (.athrow, 1) := by decide +kernel
theorem dX5_versionNumbered_26 : decode cX5_versionNumbered 26 = .ok (.aload_n 0, 1) := by decide +kernel
theorem dX5_versionNumbered_27 : decode cX5_versionNumbered 27 = .ok (.getfield 22, 3) := by decide +kernel
theorem dX5_versionNumbered_30 : decode cX5_versionNumbered 30 = .ok (.iload_n 1, 1) := by decide +kernel
theorem dX5_versionNumbered_31 : decode cX5_versionNumbered 31 = .ok (.invokevirtual 146, 3) := by decide +kernel
theorem dX5_versionNumbered_34 : decode cX5_versionNumbered 34 = .ok (.checkcast 264, 3) := by decide +kernel
theorem dX5_versionNumbered_37 : decode cX5_versionNumbered 37 = .ok (.areturn, 1) := by decide +kernel
theorem dX5_loanNumbered_0 : decode cX5_loanNumbered 0 = .ok (.iload_n 1, 1) := by decide +kernel
theorem dX5_loanNumbered_1 : decode cX5_loanNumbered 1 = .ok (.ifCond .lt 14, 3) := by decide +kernel
theorem dX5_loanNumbered_4 : decode cX5_loanNumbered 4 = .ok (.iload_n 1, 1) := by decide +kernel
theorem dX5_loanNumbered_5 : decode cX5_loanNumbered 5 = .ok (.aload_n 0, 1) := by decide +kernel
theorem dX5_loanNumbered_6 : decode cX5_loanNumbered 6 = .ok (.getfield 25, 3) := by decide +kernel
theorem dX5_loanNumbered_9 : decode cX5_loanNumbered 9 = .ok (.invokevirtual 39, 3) := by decide +kernel
theorem dX5_loanNumbered_12 : decode cX5_loanNumbered 12 = .ok (.if_icmp .lt 14, 3) := by decide +kernel
theorem dX5_loanNumbered_15 : decode cX5_loanNumbered 15 = .ok (.new 128, 3) := by decide +kernel
theorem dX5_loanNumbered_18 : decode cX5_loanNumbered 18 = .ok (.dup, 1) := by decide +kernel
theorem dX5_loanNumbered_19 : decode cX5_loanNumbered 19 = .ok (.ldc_w 361, 3) := by decide +kernel
theorem dX5_loanNumbered_22 : decode cX5_loanNumbered 22 = .ok (.invokespecial 132, 3) := by decide +kernel
theorem dX5_loanNumbered_25 : decode cX5_loanNumbered 25 = .ok (.athrow, 1) := by decide +kernel
theorem dX5_loanNumbered_26 : decode cX5_loanNumbered 26 = .ok (.aload_n 0, 1) := by decide +kernel
theorem dX5_loanNumbered_27 : decode cX5_loanNumbered 27 = .ok (.getfield 25, 3) := by decide +kernel
theorem dX5_loanNumbered_30 : decode cX5_loanNumbered 30 = .ok (.iload_n 1, 1) := by decide +kernel
theorem dX5_loanNumbered_31 : decode cX5_loanNumbered 31 = .ok (.invokevirtual 146, 3) := by decide +kernel
theorem dX5_loanNumbered_34 : decode cX5_loanNumbered 34 = .ok (.checkcast 302, 3) := by decide +kernel
theorem dX5_loanNumbered_37 : decode cX5_loanNumbered 37 = .ok (.areturn, 1) := by decide +kernel
theorem dX5_shotAheadOfSplice_0 : decode cX5_shotAheadOfSplice 0 = .ok (.iload_n 2, 1) := by decide +kernel
theorem dX5_shotAheadOfSplice_1 : decode cX5_shotAheadOfSplice 1 = .ok (.ifCond .lt 11, 3) := by decide +kernel
theorem dX5_shotAheadOfSplice_4 : decode cX5_shotAheadOfSplice 4 = .ok (.iload_n 2, 1) := by decide +kernel
theorem dX5_shotAheadOfSplice_5 : decode cX5_shotAheadOfSplice 5 = .ok (.aload_n 1, 1) := by decide +kernel
theorem dX5_shotAheadOfSplice_6 : decode cX5_shotAheadOfSplice 6 = .ok (.invokevirtual 342, 3) := by decide +kernel
theorem dX5_shotAheadOfSplice_9 : decode cX5_shotAheadOfSplice 9 = .ok (.if_icmp .lt 14, 3) := by decide +kernel
theorem dX5_shotAheadOfSplice_12 : decode cX5_shotAheadOfSplice 12 = .ok (.new 128, 3) := by decide +kernel
theorem dX5_shotAheadOfSplice_15 : decode cX5_shotAheadOfSplice 15 = .ok (.dup, 1) := by decide +kernel
theorem dX5_shotAheadOfSplice_16 : decode cX5_shotAheadOfSplice 16 = .ok (.ldc_w 363, 3) := by decide +kernel
theorem dX5_shotAheadOfSplice_19 : decode cX5_shotAheadOfSplice 19 = .ok (.invokespecial 132, 3) := by decide +kernel
theorem dX5_shotAheadOfSplice_22 : decode cX5_shotAheadOfSplice 22 = .ok (.athrow, 1) := by decide +kernel
theorem dX5_shotAheadOfSplice_23 : decode cX5_shotAheadOfSplice 23 = .ok (.aload_n 1, 1) := by decide +kernel
theorem dX5_shotAheadOfSplice_24 : decode cX5_shotAheadOfSplice 24 = .ok (.getfield 127, 3) := by decide +kernel
theorem dX5_shotAheadOfSplice_27 : decode cX5_shotAheadOfSplice 27 = .ok (.iload_n 2, 1) := by decide +kernel
theorem dX5_shotAheadOfSplice_28 : decode cX5_shotAheadOfSplice 28 = .ok (.invokevirtual 146, 3) := by decide +kernel
theorem dX5_shotAheadOfSplice_31 : decode cX5_shotAheadOfSplice 31 = .ok (.checkcast 75, 3) := by decide +kernel
theorem dX5_shotAheadOfSplice_34 : decode cX5_shotAheadOfSplice 34 = .ok (.areturn, 1) := by decide +kernel
theorem dX5_requireLengthAndScene_0 : decode cX5_requireLengthAndScene 0 = .ok (.iload_n 1, 1) := by decide +kernel
theorem dX5_requireLengthAndScene_1 : decode cX5_requireLengthAndScene 1 = .ok (.iconst 1, 1) := by decide +kernel
theorem dX5_requireLengthAndScene_2 : decode cX5_requireLengthAndScene 2 = .ok (.if_icmp .lt 20, 3) := by decide +kernel
theorem dX5_requireLengthAndScene_5 : decode cX5_requireLengthAndScene 5 = .ok (.iload_n 1, 1) := by decide +kernel
theorem dX5_requireLengthAndScene_6 : decode cX5_requireLengthAndScene 6 = .ok (.sipush 999, 3) := by decide +kernel
theorem dX5_requireLengthAndScene_9 : decode cX5_requireLengthAndScene 9 = .ok (.if_icmp .gt 13, 3) := by decide +kernel
theorem dX5_requireLengthAndScene_12 : decode cX5_requireLengthAndScene 12 = .ok (.iload_n 2, 1) := by decide +kernel
theorem dX5_requireLengthAndScene_13 : decode cX5_requireLengthAndScene 13 = .ok (.ifCond .lt 9, 3) := by decide +kernel
theorem dX5_requireLengthAndScene_16 : decode cX5_requireLengthAndScene 16 = .ok (.iload_n 2, 1) := by decide +kernel
theorem dX5_requireLengthAndScene_17 : decode cX5_requireLengthAndScene 17 = .ok (.bipush 9, 2) := by decide +kernel
theorem dX5_requireLengthAndScene_19 : decode cX5_requireLengthAndScene 19 = .ok (.if_icmp .le 14, 3) := by decide +kernel
theorem dX5_requireLengthAndScene_22 : decode cX5_requireLengthAndScene 22 = .ok (.new 101, 3) := by decide +kernel
theorem dX5_requireLengthAndScene_25 : decode cX5_requireLengthAndScene 25 = .ok (.dup, 1) := by decide +kernel
theorem dX5_requireLengthAndScene_26 : decode cX5_requireLengthAndScene 26 = .ok (.ldc_w 295, 3) := by decide +kernel
theorem dX5_requireLengthAndScene_29 : decode cX5_requireLengthAndScene 29 = .ok (.invokespecial 105, 3) := by decide +kernel
theorem dX5_requireLengthAndScene_32 : decode cX5_requireLengthAndScene 32 = .ok (.athrow, 1) := by decide +kernel
theorem dX5_requireLengthAndScene_33 : decode cX5_requireLengthAndScene 33 = .ok (.return_, 1) := by decide +kernel
theorem dX5_requireNotLent_0 : decode cX5_requireNotLent 0 = .ok (.aload_n 1, 1) := by decide +kernel
theorem dX5_requireNotLent_1 : decode cX5_requireNotLent 1 = .ok (.getfield 307, 3) := by decide +kernel
theorem dX5_requireNotLent_4 : decode cX5_requireNotLent 4 = .ok (.ifCond .eq 14, 3) := by decide +kernel
theorem dX5_requireNotLent_7 : decode cX5_requireNotLent 7 = .ok (.new 114, 3) := by decide +kernel
theorem dX5_requireNotLent_10 : decode cX5_requireNotLent 10 = .ok (.dup, 1) := by decide +kernel
theorem dX5_requireNotLent_11 : decode cX5_requireNotLent 11 = .ok (.ldc_w 365, 3) := by decide +kernel
theorem dX5_requireNotLent_14 : decode cX5_requireNotLent 14 = .ok (.invokespecial 118, 3) := by decide +kernel
theorem dX5_requireNotLent_17 : decode cX5_requireNotLent 17 = .ok (.athrow, 1) := by decide +kernel
theorem dX5_requireNotLent_18 : decode cX5_requireNotLent 18 = .ok (.return_, 1) := by decide +kernel
theorem dX5_isAnyFilmLent_0 : decode cX5_isAnyFilmLent 0 = .ok (.iconst 0, 1) := by decide +kernel
theorem dX5_isAnyFilmLent_1 : decode cX5_isAnyFilmLent 1 = .ok (.istore_n 1, 1) := by decide +kernel
theorem dX5_isAnyFilmLent_2 : decode cX5_isAnyFilmLent 2 = .ok (.iload_n 1, 1) := by decide +kernel
theorem dX5_isAnyFilmLent_3 : decode cX5_isAnyFilmLent 3 = .ok (.aload_n 0, 1) := by decide +kernel
theorem dX5_isAnyFilmLent_4 : decode cX5_isAnyFilmLent 4 = .ok (.getfield 12, 3) := by decide +kernel
theorem dX5_isAnyFilmLent_7 : decode cX5_isAnyFilmLent 7 = .ok (.invokevirtual 39, 3) := by decide +kernel
theorem dX5_isAnyFilmLent_10 : decode cX5_isAnyFilmLent 10 = .ok (.if_icmp .ge 28, 3) := by decide +kernel
theorem dX5_isAnyFilmLent_13 : decode cX5_isAnyFilmLent 13 = .ok (.aload_n 0, 1) := by decide +kernel
theorem dX5_isAnyFilmLent_14 : decode cX5_isAnyFilmLent 14 = .ok (.getfield 12, 3) := by decide +kernel
theorem dX5_isAnyFilmLent_17 : decode cX5_isAnyFilmLent 17 = .ok (.iload_n 1, 1) := by decide +kernel
theorem dX5_isAnyFilmLent_18 : decode cX5_isAnyFilmLent 18 = .ok (.invokevirtual 146, 3) := by decide +kernel
theorem dX5_isAnyFilmLent_21 : decode cX5_isAnyFilmLent 21 = .ok (.checkcast 50, 3) := by decide +kernel
theorem dX5_isAnyFilmLent_24 : decode cX5_isAnyFilmLent 24 = .ok (.getfield 307, 3) := by decide +kernel
theorem dX5_isAnyFilmLent_27 : decode cX5_isAnyFilmLent 27 = .ok (.ifCond .eq 5, 3) := by decide +kernel
theorem dX5_isAnyFilmLent_30 : decode cX5_isAnyFilmLent 30 = .ok (.iconst 1, 1) := by decide +kernel
theorem dX5_isAnyFilmLent_31 : decode cX5_isAnyFilmLent 31 = .ok (.ireturn, 1) := by decide +kernel
theorem dX5_isAnyFilmLent_32 : decode cX5_isAnyFilmLent 32 = .ok (.iinc 1 1, 3) := by decide +kernel
theorem dX5_isAnyFilmLent_35 : decode cX5_isAnyFilmLent 35 = .ok (.goto (-33), 3) := by decide +kernel
theorem dX5_isAnyFilmLent_38 : decode cX5_isAnyFilmLent 38 = .ok (.iconst 0, 1) := by decide +kernel
theorem dX5_isAnyFilmLent_39 : decode cX5_isAnyFilmLent 39 = .ok (.ireturn, 1) := by decide +kernel
theorem dX5_isAheadOfEnd_0 : decode cX5_isAheadOfEnd 0 = .ok (.aload_n 2, 1) := by decide +kernel
theorem dX5_isAheadOfEnd_1 : decode cX5_isAheadOfEnd 1 = .ok (.getfield 127, 3) := by decide +kernel
theorem dX5_isAheadOfEnd_4 : decode cX5_isAheadOfEnd 4 = .ok (.invokevirtual 39, 3) := by decide +kernel
theorem dX5_isAheadOfEnd_7 : decode cX5_isAheadOfEnd 7 = .ok (.istore_n 3, 1) := by decide +kernel
theorem dX5_isAheadOfEnd_8 : decode cX5_isAheadOfEnd 8 = .ok (.iload_n 3, 1) := by decide +kernel
theorem dX5_isAheadOfEnd_9 : decode cX5_isAheadOfEnd 9 = .ok (.ifCond .ne 5, 3) := by decide +kernel
theorem dX5_isAheadOfEnd_12 : decode cX5_isAheadOfEnd 12 = .ok (.iconst 0, 1) := by decide +kernel
theorem dX5_isAheadOfEnd_13 : decode cX5_isAheadOfEnd 13 = .ok (.ireturn, 1) := by decide +kernel
theorem dX5_isAheadOfEnd_14 : decode cX5_isAheadOfEnd 14 = .ok (.aload_n 1, 1) := by decide +kernel
theorem dX5_isAheadOfEnd_15 : decode cX5_isAheadOfEnd 15 = .ok (.getfield 100, 3) := by decide +kernel
theorem dX5_isAheadOfEnd_18 : decode cX5_isAheadOfEnd 18 = .ok (.aload_n 1, 1) := by decide +kernel
theorem dX5_isAheadOfEnd_19 : decode cX5_isAheadOfEnd 19 = .ok (.invokevirtual 161, 3) := by decide +kernel
theorem dX5_isAheadOfEnd_22 : decode cX5_isAheadOfEnd 22 = .ok (.aload_n 1, 1) := by decide +kernel
theorem dX5_isAheadOfEnd_23 : decode cX5_isAheadOfEnd 23 = .ok (.getfield 100, 3) := by decide +kernel
theorem dX5_isAheadOfEnd_26 : decode cX5_isAheadOfEnd 26 = .ok (.aload_n 2, 1) := by decide +kernel
theorem dX5_isAheadOfEnd_27 : decode cX5_isAheadOfEnd 27 = .ok (.getfield 127, 3) := by decide +kernel
theorem dX5_isAheadOfEnd_30 : decode cX5_isAheadOfEnd 30 = .ok (.iload_n 3, 1) := by decide +kernel
theorem dX5_isAheadOfEnd_31 : decode cX5_isAheadOfEnd 31 = .ok (.iconst 1, 1) := by decide +kernel
theorem dX5_isAheadOfEnd_32 : decode cX5_isAheadOfEnd 32 = .ok (.isub, 1) := by decide +kernel
theorem dX5_isAheadOfEnd_33 : decode cX5_isAheadOfEnd 33 = .ok (.invokevirtual 146, 3) := by decide +kernel
theorem dX5_isAheadOfEnd_36 : decode cX5_isAheadOfEnd 36 = .ok (.checkcast 75, 3) := by decide +kernel
theorem dX5_isAheadOfEnd_39 : decode cX5_isAheadOfEnd 39 = .ok (.invokevirtual 161, 3) := by decide +kernel
theorem dX5_isAheadOfEnd_42 : decode cX5_isAheadOfEnd 42 = .ok (.if_icmp .ge 7, 3) := by decide +kernel
theorem dX5_isAheadOfEnd_45 : decode cX5_isAheadOfEnd 45 = .ok (.iconst 1, 1) := by decide +kernel
theorem dX5_isAheadOfEnd_46 : decode cX5_isAheadOfEnd 46 = .ok (.goto 4, 3) := by decide +kernel
theorem dX5_isAheadOfEnd_49 : decode cX5_isAheadOfEnd 49 = .ok (.iconst 0, 1) := by decide +kernel
theorem dX5_isAheadOfEnd_50 : decode cX5_isAheadOfEnd 50 = .ok (.ireturn, 1) := by decide +kernel
theorem dX5_canBeJoined_0 : decode cX5_canBeJoined 0 = .ok (.aload_n 1, 1) := by decide +kernel
theorem dX5_canBeJoined_1 : decode cX5_canBeJoined 1 = .ok (.getfield 127, 3) := by decide +kernel
theorem dX5_canBeJoined_4 : decode cX5_canBeJoined 4 = .ok (.invokevirtual 216, 3) := by decide +kernel
theorem dX5_canBeJoined_7 : decode cX5_canBeJoined 7 = .ok (.ifCond .ne 13, 3) := by decide +kernel
theorem dX5_canBeJoined_10 : decode cX5_canBeJoined 10 = .ok (.aload_n 2, 1) := by decide +kernel
theorem dX5_canBeJoined_11 : decode cX5_canBeJoined 11 = .ok (.getfield 127, 3) := by decide +kernel
theorem dX5_canBeJoined_14 : decode cX5_canBeJoined 14 = .ok (.invokevirtual 216, 3) := by decide +kernel
theorem dX5_canBeJoined_17 : decode cX5_canBeJoined 17 = .ok (.ifCond .eq 5, 3) := by decide +kernel
theorem dX5_canBeJoined_20 : decode cX5_canBeJoined 20 = .ok (.iconst 0, 1) := by decide +kernel
theorem dX5_canBeJoined_21 : decode cX5_canBeJoined 21 = .ok (.ireturn, 1) := by decide +kernel
theorem dX5_canBeJoined_22 : decode cX5_canBeJoined 22 = .ok (.aload_n 0, 1) := by decide +kernel
theorem dX5_canBeJoined_23 : decode cX5_canBeJoined 23 = .ok (.aload_n 2, 1) := by decide +kernel
theorem dX5_canBeJoined_24 : decode cX5_canBeJoined 24 = .ok (.getfield 127, 3) := by decide +kernel
theorem dX5_canBeJoined_27 : decode cX5_canBeJoined 27 = .ok (.iconst 0, 1) := by decide +kernel
theorem dX5_canBeJoined_28 : decode cX5_canBeJoined 28 = .ok (.invokevirtual 146, 3) := by decide +kernel
theorem dX5_canBeJoined_31 : decode cX5_canBeJoined 31 = .ok (.checkcast 75, 3) := by decide +kernel
theorem dX5_canBeJoined_34 : decode cX5_canBeJoined 34 = .ok (.aload_n 1, 1) := by decide +kernel
theorem dX5_canBeJoined_35 : decode cX5_canBeJoined 35 = .ok (.invokevirtual 110, 3) := by decide +kernel
theorem dX5_canBeJoined_38 : decode cX5_canBeJoined 38 = .ok (.ifCond .ne 7, 3) := by decide +kernel
theorem dX5_canBeJoined_41 : decode cX5_canBeJoined 41 = .ok (.iconst 1, 1) := by decide +kernel
theorem dX5_canBeJoined_42 : decode cX5_canBeJoined 42 = .ok (.goto 4, 3) := by decide +kernel
theorem dX5_canBeJoined_45 : decode cX5_canBeJoined 45 = .ok (.iconst 0, 1) := by decide +kernel
theorem dX5_canBeJoined_46 : decode cX5_canBeJoined 46 = .ok (.ireturn, 1) := by decide +kernel
theorem dX5_canFilmTake_0 : decode cX5_canFilmTake 0 = .ok (.iconst 0, 1) := by decide +kernel
theorem dX5_canFilmTake_1 : decode cX5_canFilmTake 1 = .ok (.istore_n 3, 1) := by decide +kernel
theorem dX5_canFilmTake_2 : decode cX5_canFilmTake 2 = .ok (.iload_n 3, 1) := by decide +kernel
theorem dX5_canFilmTake_3 : decode cX5_canFilmTake 3 = .ok (.aload_n 0, 1) := by decide +kernel
theorem dX5_canFilmTake_4 : decode cX5_canFilmTake 4 = .ok (.getfield 19, 3) := by decide +kernel
theorem dX5_canFilmTake_7 : decode cX5_canFilmTake 7 = .ok (.invokevirtual 39, 3) := by decide +kernel
theorem dX5_canFilmTake_10 : decode cX5_canFilmTake 10 = .ok (.if_icmp .ge 46, 3) := by decide +kernel
theorem dX5_canFilmTake_13 : decode cX5_canFilmTake 13 = .ok (.aload_n 0, 1) := by decide +kernel
theorem dX5_canFilmTake_14 : decode cX5_canFilmTake 14 = .ok (.getfield 19, 3) := by decide +kernel
theorem dX5_canFilmTake_17 : decode cX5_canFilmTake 17 = .ok (.iload_n 3, 1) := by decide +kernel
theorem dX5_canFilmTake_18 : decode cX5_canFilmTake 18 = .ok (.invokevirtual 146, 3) := by decide +kernel
theorem dX5_canFilmTake_21 : decode cX5_canFilmTake 21 = .ok (.checkcast 86, 3) := by decide +kernel
theorem dX5_canFilmTake_24 : decode cX5_canFilmTake 24 = .ok (.astore 4, 2) := by decide +kernel
theorem dX5_canFilmTake_26 : decode cX5_canFilmTake 26 = .ok (.aload 4, 2) := by decide +kernel
theorem dX5_canFilmTake_28 : decode cX5_canFilmTake 28 = .ok (.getfield 96, 3) := by decide +kernel
theorem dX5_canFilmTake_31 : decode cX5_canFilmTake 31 = .ok (.aload_n 1, 1) := by decide +kernel
theorem dX5_canFilmTake_32 : decode cX5_canFilmTake 32 = .ok (.if_acmp .ne 18, 3) := by decide +kernel
theorem dX5_canFilmTake_35 : decode cX5_canFilmTake 35 = .ok (.aload 4, 2) := by decide +kernel
theorem dX5_canFilmTake_37 : decode cX5_canFilmTake 37 = .ok (.iload_n 2, 1) := by decide +kernel
theorem dX5_canFilmTake_38 : decode cX5_canFilmTake 38 = .ok (.aload_n 0, 1) := by decide +kernel
theorem dX5_canFilmTake_39 : decode cX5_canFilmTake 39 = .ok (.getfield 28, 3) := by decide +kernel
theorem dX5_canFilmTake_42 : decode cX5_canFilmTake 42 = .ok (.invokevirtual 189, 3) := by decide +kernel
theorem dX5_canFilmTake_45 : decode cX5_canFilmTake 45 = .ok (.ifCond .ne 5, 3) := by decide +kernel
theorem dX5_canFilmTake_48 : decode cX5_canFilmTake 48 = .ok (.iconst 0, 1) := by decide +kernel
theorem dX5_canFilmTake_49 : decode cX5_canFilmTake 49 = .ok (.ireturn, 1) := by decide +kernel
theorem dX5_canFilmTake_50 : decode cX5_canFilmTake 50 = .ok (.iinc 3 1, 3) := by decide +kernel
theorem dX5_canFilmTake_53 : decode cX5_canFilmTake 53 = .ok (.goto (-51), 3) := by decide +kernel
theorem dX5_canFilmTake_56 : decode cX5_canFilmTake 56 = .ok (.iconst 1, 1) := by decide +kernel
theorem dX5_canFilmTake_57 : decode cX5_canFilmTake 57 = .ok (.ireturn, 1) := by decide +kernel
theorem dX5_hasVersion_0 : decode cX5_hasVersion 0 = .ok (.iconst 0, 1) := by decide +kernel
theorem dX5_hasVersion_1 : decode cX5_hasVersion 1 = .ok (.istore_n 3, 1) := by decide +kernel
theorem dX5_hasVersion_2 : decode cX5_hasVersion 2 = .ok (.iload_n 3, 1) := by decide +kernel
theorem dX5_hasVersion_3 : decode cX5_hasVersion 3 = .ok (.aload_n 0, 1) := by decide +kernel
theorem dX5_hasVersion_4 : decode cX5_hasVersion 4 = .ok (.getfield 22, 3) := by decide +kernel
theorem dX5_hasVersion_7 : decode cX5_hasVersion 7 = .ok (.invokevirtual 39, 3) := by decide +kernel
theorem dX5_hasVersion_10 : decode cX5_hasVersion 10 = .ok (.if_icmp .ge 42, 3) := by decide +kernel
theorem dX5_hasVersion_13 : decode cX5_hasVersion 13 = .ok (.aload_n 0, 1) := by decide +kernel
theorem dX5_hasVersion_14 : decode cX5_hasVersion 14 = .ok (.getfield 22, 3) := by decide +kernel
theorem dX5_hasVersion_17 : decode cX5_hasVersion 17 = .ok (.iload_n 3, 1) := by decide +kernel
theorem dX5_hasVersion_18 : decode cX5_hasVersion 18 = .ok (.invokevirtual 146, 3) := by decide +kernel
theorem dX5_hasVersion_21 : decode cX5_hasVersion 21 = .ok (.checkcast 264, 3) := by decide +kernel
theorem dX5_hasVersion_24 : decode cX5_hasVersion 24 = .ok (.astore 4, 2) := by decide +kernel
theorem dX5_hasVersion_26 : decode cX5_hasVersion 26 = .ok (.aload 4, 2) := by decide +kernel
theorem dX5_hasVersion_28 : decode cX5_hasVersion 28 = .ok (.getfield 273, 3) := by decide +kernel
theorem dX5_hasVersion_31 : decode cX5_hasVersion 31 = .ok (.aload_n 1, 1) := by decide +kernel
theorem dX5_hasVersion_32 : decode cX5_hasVersion 32 = .ok (.if_acmp .ne 14, 3) := by decide +kernel
theorem dX5_hasVersion_35 : decode cX5_hasVersion 35 = .ok (.aload 4, 2) := by decide +kernel
theorem dX5_hasVersion_37 : decode cX5_hasVersion 37 = .ok (.getfield 367, 3) := by decide +kernel
theorem dX5_hasVersion_40 : decode cX5_hasVersion 40 = .ok (.iload_n 2, 1) := by decide +kernel
theorem dX5_hasVersion_41 : decode cX5_hasVersion 41 = .ok (.if_icmp .ne 5, 3) := by decide +kernel
theorem dX5_hasVersion_44 : decode cX5_hasVersion 44 = .ok (.iconst 1, 1) := by decide +kernel
theorem dX5_hasVersion_45 : decode cX5_hasVersion 45 = .ok (.ireturn, 1) := by decide +kernel
theorem dX5_hasVersion_46 : decode cX5_hasVersion 46 = .ok (.iinc 3 1, 3) := by decide +kernel
theorem dX5_hasVersion_49 : decode cX5_hasVersion 49 = .ok (.goto (-47), 3) := by decide +kernel
theorem dX5_hasVersion_52 : decode cX5_hasVersion 52 = .ok (.iconst 0, 1) := by decide +kernel
theorem dX5_hasVersion_53 : decode cX5_hasVersion 53 = .ok (.ireturn, 1) := by decide +kernel
theorem dX5_newShot_0 : decode cX5_newShot 0 = .ok (.new 75, 3) := by decide +kernel
theorem dX5_newShot_3 : decode cX5_newShot 3 = .ok (.dup, 1) := by decide +kernel
theorem dX5_newShot_4 : decode cX5_newShot 4 = .ok (.aload_n 1, 1) := by decide +kernel
theorem dX5_newShot_5 : decode cX5_newShot 5 = .ok (.aload_n 0, 1) := by decide +kernel
theorem dX5_newShot_6 : decode cX5_newShot 6 = .ok (.getfield 16, 3) := by decide +kernel
theorem dX5_newShot_9 : decode cX5_newShot 9 = .ok (.invokevirtual 39, 3) := by decide +kernel
theorem dX5_newShot_12 : decode cX5_newShot 12 = .ok (.iload_n 2, 1) := by decide +kernel
theorem dX5_newShot_13 : decode cX5_newShot 13 = .ok (.iload_n 3, 1) := by decide +kernel
theorem dX5_newShot_14 : decode cX5_newShot 14 = .ok (.invokespecial 370, 3) := by decide +kernel
theorem dX5_newShot_17 : decode cX5_newShot 17 = .ok (.astore 4, 2) := by decide +kernel
theorem dX5_newShot_19 : decode cX5_newShot 19 = .ok (.aload_n 0, 1) := by decide +kernel
theorem dX5_newShot_20 : decode cX5_newShot 20 = .ok (.getfield 16, 3) := by decide +kernel
theorem dX5_newShot_23 : decode cX5_newShot 23 = .ok (.aload 4, 2) := by decide +kernel
theorem dX5_newShot_25 : decode cX5_newShot 25 = .ok (.invokevirtual 53, 3) := by decide +kernel
theorem dX5_newShot_28 : decode cX5_newShot 28 = .ok (.pop, 1) := by decide +kernel
theorem dX5_newShot_29 : decode cX5_newShot 29 = .ok (.aload 4, 2) := by decide +kernel
theorem dX5_newShot_31 : decode cX5_newShot 31 = .ok (.areturn, 1) := by decide +kernel
theorem dX5_newReel_0 : decode cX5_newReel 0 = .ok (.new 86, 3) := by decide +kernel
theorem dX5_newReel_3 : decode cX5_newReel 3 = .ok (.dup, 1) := by decide +kernel
theorem dX5_newReel_4 : decode cX5_newReel 4 = .ok (.aload_n 1, 1) := by decide +kernel
theorem dX5_newReel_5 : decode cX5_newReel 5 = .ok (.aload_n 0, 1) := by decide +kernel
theorem dX5_newReel_6 : decode cX5_newReel 6 = .ok (.getfield 19, 3) := by decide +kernel
theorem dX5_newReel_9 : decode cX5_newReel 9 = .ok (.invokevirtual 39, 3) := by decide +kernel
theorem dX5_newReel_12 : decode cX5_newReel 12 = .ok (.invokespecial 371, 3) := by decide +kernel
theorem dX5_newReel_15 : decode cX5_newReel 15 = .ok (.astore_n 2, 1) := by decide +kernel
theorem dX5_newReel_16 : decode cX5_newReel 16 = .ok (.aload_n 0, 1) := by decide +kernel
theorem dX5_newReel_17 : decode cX5_newReel 17 = .ok (.getfield 19, 3) := by decide +kernel
theorem dX5_newReel_20 : decode cX5_newReel 20 = .ok (.aload_n 2, 1) := by decide +kernel
theorem dX5_newReel_21 : decode cX5_newReel 21 = .ok (.invokevirtual 53, 3) := by decide +kernel
theorem dX5_newReel_24 : decode cX5_newReel 24 = .ok (.pop, 1) := by decide +kernel
theorem dX5_newReel_25 : decode cX5_newReel 25 = .ok (.aload_n 2, 1) := by decide +kernel
theorem dX5_newReel_26 : decode cX5_newReel 26 = .ok (.areturn, 1) := by decide +kernel
theorem dX5_play_0 : decode cX5_play 0 = .ok (.aload_n 1, 1) := by decide +kernel
theorem dX5_play_1 : decode cX5_play 1 = .ok (.iload_n 2, 1) := by decide +kernel
theorem dX5_play_2 : decode cX5_play 2 = .ok (.invokevirtual 372, 3) := by decide +kernel
theorem dX5_play_5 : decode cX5_play 5 = .ok (.aload_n 0, 1) := by decide +kernel
theorem dX5_play_6 : decode cX5_play 6 = .ok (.dup, 1) := by decide +kernel
theorem dX5_play_7 : decode cX5_play 7 = .ok (.getfield 35, 3) := by decide +kernel
theorem dX5_play_10 : decode cX5_play 10 = .ok (.aload_n 1, 1) := by decide +kernel
theorem dX5_play_11 : decode cX5_play 11 = .ok (.invokevirtual 376, 3) := by decide +kernel
theorem dX5_play_14 : decode cX5_play 14 = .ok (.i2l, 1) := by decide +kernel
theorem dX5_play_15 : decode cX5_play 15 = .ok (.ladd, 1) := by decide +kernel
theorem dX5_play_16 : decode cX5_play 16 = .ok (.putfield 35, 3) := by decide +kernel
theorem dX5_play_19 : decode cX5_play 19 = .ok (.return_, 1) := by decide +kernel
theorem dX5_takeLastFrame_0 : decode cX5_takeLastFrame 0 = .ok (.iconst 0, 1) := by decide +kernel
theorem dX5_takeLastFrame_1 : decode cX5_takeLastFrame 1 = .ok (.istore_n 2, 1) := by decide +kernel
theorem dX5_takeLastFrame_2 : decode cX5_takeLastFrame 2 = .ok (.iload_n 2, 1) := by decide +kernel
theorem dX5_takeLastFrame_3 : decode cX5_takeLastFrame 3 = .ok (.aload_n 0, 1) := by decide +kernel
theorem dX5_takeLastFrame_4 : decode cX5_takeLastFrame 4 = .ok (.getfield 22, 3) := by decide +kernel
theorem dX5_takeLastFrame_7 : decode cX5_takeLastFrame 7 = .ok (.invokevirtual 39, 3) := by decide +kernel
theorem dX5_takeLastFrame_10 : decode cX5_takeLastFrame 10 = .ok (.if_icmp .ge 49, 3) := by decide +kernel
theorem dX5_takeLastFrame_13 : decode cX5_takeLastFrame 13 = .ok (.aload_n 0, 1) := by decide +kernel
theorem dX5_takeLastFrame_14 : decode cX5_takeLastFrame 14 = .ok (.getfield 22, 3) := by decide +kernel
theorem dX5_takeLastFrame_17 : decode cX5_takeLastFrame 17 = .ok (.iload_n 2, 1) := by decide +kernel
theorem dX5_takeLastFrame_18 : decode cX5_takeLastFrame 18 = .ok (.invokevirtual 146, 3) := by decide +kernel
theorem dX5_takeLastFrame_21 : decode cX5_takeLastFrame 21 = .ok (.checkcast 264, 3) := by decide +kernel
theorem dX5_takeLastFrame_24 : decode cX5_takeLastFrame 24 = .ok (.astore_n 3, 1) := by decide +kernel
theorem dX5_takeLastFrame_25 : decode cX5_takeLastFrame 25 = .ok (.aload_n 3, 1) := by decide +kernel
theorem dX5_takeLastFrame_26 : decode cX5_takeLastFrame 26 = .ok (.getfield 273, 3) := by decide +kernel
theorem dX5_takeLastFrame_29 : decode cX5_takeLastFrame 29 = .ok (.aload_n 1, 1) := by decide +kernel
theorem dX5_takeLastFrame_30 : decode cX5_takeLastFrame 30 = .ok (.getfield 100, 3) := by decide +kernel
theorem dX5_takeLastFrame_33 : decode cX5_takeLastFrame 33 = .ok (.if_acmp .ne 20, 3) := by decide +kernel
theorem dX5_takeLastFrame_36 : decode cX5_takeLastFrame 36 = .ok (.aload_n 3, 1) := by decide +kernel
theorem dX5_takeLastFrame_37 : decode cX5_takeLastFrame 37 = .ok (.aload_n 1, 1) := by decide +kernel
theorem dX5_takeLastFrame_38 : decode cX5_takeLastFrame 38 = .ok (.aload_n 1, 1) := by decide +kernel
theorem dX5_takeLastFrame_39 : decode cX5_takeLastFrame 39 = .ok (.getfield 153, 3) := by decide +kernel
theorem dX5_takeLastFrame_42 : decode cX5_takeLastFrame 42 = .ok (.iconst 1, 1) := by decide +kernel
theorem dX5_takeLastFrame_43 : decode cX5_takeLastFrame 43 = .ok (.isub, 1) := by decide +kernel
theorem dX5_takeLastFrame_44 : decode cX5_takeLastFrame 44 = .ok (.aload_n 1, 1) := by decide +kernel
theorem dX5_takeLastFrame_45 : decode cX5_takeLastFrame 45 = .ok (.getfield 153, 3) := by decide +kernel
theorem dX5_takeLastFrame_48 : decode cX5_takeLastFrame 48 = .ok (.iconst 0, 1) := by decide +kernel
theorem dX5_takeLastFrame_49 : decode cX5_takeLastFrame 49 = .ok (.invokevirtual 288, 3) := by decide +kernel
theorem dX5_takeLastFrame_52 : decode cX5_takeLastFrame 52 = .ok (.pop, 1) := by decide +kernel
theorem dX5_takeLastFrame_53 : decode cX5_takeLastFrame 53 = .ok (.iinc 2 1, 3) := by decide +kernel
theorem dX5_takeLastFrame_56 : decode cX5_takeLastFrame 56 = .ok (.goto (-54), 3) := by decide +kernel
theorem dX5_takeLastFrame_59 : decode cX5_takeLastFrame 59 = .ok (.aload_n 1, 1) := by decide +kernel
theorem dX5_takeLastFrame_60 : decode cX5_takeLastFrame 60 = .ok (.dup, 1) := by decide +kernel
theorem dX5_takeLastFrame_61 : decode cX5_takeLastFrame 61 = .ok (.getfield 153, 3) := by decide +kernel
theorem dX5_takeLastFrame_64 : decode cX5_takeLastFrame 64 = .ok (.iconst 1, 1) := by decide +kernel
theorem dX5_takeLastFrame_65 : decode cX5_takeLastFrame 65 = .ok (.isub, 1) := by decide +kernel
theorem dX5_takeLastFrame_66 : decode cX5_takeLastFrame 66 = .ok (.putfield 153, 3) := by decide +kernel
theorem dX5_takeLastFrame_69 : decode cX5_takeLastFrame 69 = .ok (.aload_n 1, 1) := by decide +kernel
theorem dX5_takeLastFrame_70 : decode cX5_takeLastFrame 70 = .ok (.aload_n 1, 1) := by decide +kernel
theorem dX5_takeLastFrame_71 : decode cX5_takeLastFrame 71 = .ok (.getfield 231, 3) := by decide +kernel
theorem dX5_takeLastFrame_74 : decode cX5_takeLastFrame 74 = .ok (.aload_n 1, 1) := by decide +kernel
theorem dX5_takeLastFrame_75 : decode cX5_takeLastFrame 75 = .ok (.getfield 153, 3) := by decide +kernel
theorem dX5_takeLastFrame_78 : decode cX5_takeLastFrame 78 = .ok (.invokestatic 285, 3) := by decide +kernel
theorem dX5_takeLastFrame_81 : decode cX5_takeLastFrame 81 = .ok (.putfield 231, 3) := by decide +kernel
theorem dX5_takeLastFrame_84 : decode cX5_takeLastFrame 84 = .ok (.return_, 1) := by decide +kernel
theorem dX5_framesLostAt_0 : decode cX5_framesLostAt 0 = .ok (.iconst 0, 1) := by decide +kernel
theorem dX5_framesLostAt_1 : decode cX5_framesLostAt 1 = .ok (.istore_n 3, 1) := by decide +kernel
theorem dX5_framesLostAt_2 : decode cX5_framesLostAt 2 = .ok (.aload_n 0, 1) := by decide +kernel
theorem dX5_framesLostAt_3 : decode cX5_framesLostAt 3 = .ok (.aload_n 1, 1) := by decide +kernel
theorem dX5_framesLostAt_4 : decode cX5_framesLostAt 4 = .ok (.iload_n 2, 1) := by decide +kernel
theorem dX5_framesLostAt_5 : decode cX5_framesLostAt 5 = .ok (.iconst 1, 1) := by decide +kernel
theorem dX5_framesLostAt_6 : decode cX5_framesLostAt 6 = .ok (.isub, 1) := by decide +kernel
theorem dX5_framesLostAt_7 : decode cX5_framesLostAt 7 = .ok (.invokevirtual 377, 3) := by decide +kernel
theorem dX5_framesLostAt_10 : decode cX5_framesLostAt 10 = .ok (.ifCond .eq 6, 3) := by decide +kernel
theorem dX5_framesLostAt_13 : decode cX5_framesLostAt 13 = .ok (.iinc 3 1, 3) := by decide +kernel
theorem dX5_framesLostAt_16 : decode cX5_framesLostAt 16 = .ok (.aload_n 0, 1) := by decide +kernel
theorem dX5_framesLostAt_17 : decode cX5_framesLostAt 17 = .ok (.aload_n 1, 1) := by decide +kernel
theorem dX5_framesLostAt_18 : decode cX5_framesLostAt 18 = .ok (.iload_n 2, 1) := by decide +kernel
theorem dX5_framesLostAt_19 : decode cX5_framesLostAt 19 = .ok (.invokevirtual 377, 3) := by decide +kernel
theorem dX5_framesLostAt_22 : decode cX5_framesLostAt 22 = .ok (.ifCond .eq 6, 3) := by decide +kernel
theorem dX5_framesLostAt_25 : decode cX5_framesLostAt 25 = .ok (.iinc 3 1, 3) := by decide +kernel
theorem dX5_framesLostAt_28 : decode cX5_framesLostAt 28 = .ok (.iload_n 3, 1) := by decide +kernel
theorem dX5_framesLostAt_29 : decode cX5_framesLostAt 29 = .ok (.aload_n 1, 1) := by decide +kernel
theorem dX5_framesLostAt_30 : decode cX5_framesLostAt 30 = .ok (.getfield 127, 3) := by decide +kernel
theorem dX5_framesLostAt_33 : decode cX5_framesLostAt 33 = .ok (.iload_n 2, 1) := by decide +kernel
theorem dX5_framesLostAt_34 : decode cX5_framesLostAt 34 = .ok (.invokevirtual 146, 3) := by decide +kernel
theorem dX5_framesLostAt_37 : decode cX5_framesLostAt 37 = .ok (.checkcast 75, 3) := by decide +kernel
theorem dX5_framesLostAt_40 : decode cX5_framesLostAt 40 = .ok (.getfield 153, 3) := by decide +kernel
theorem dX5_framesLostAt_43 : decode cX5_framesLostAt 43 = .ok (.invokestatic 285, 3) := by decide +kernel
theorem dX5_framesLostAt_46 : decode cX5_framesLostAt 46 = .ok (.ireturn, 1) := by decide +kernel
theorem dX5_isWorn_0 : decode cX5_isWorn 0 = .ok (.iload_n 2, 1) := by decide +kernel
theorem dX5_isWorn_1 : decode cX5_isWorn 1 = .ok (.ifCond .lt 38, 3) := by decide +kernel
theorem dX5_isWorn_4 : decode cX5_isWorn 4 = .ok (.iload_n 2, 1) := by decide +kernel
theorem dX5_isWorn_5 : decode cX5_isWorn 5 = .ok (.aload_n 1, 1) := by decide +kernel
theorem dX5_isWorn_6 : decode cX5_isWorn 6 = .ok (.invokevirtual 342, 3) := by decide +kernel
theorem dX5_isWorn_9 : decode cX5_isWorn 9 = .ok (.if_icmp .ge 30, 3) := by decide +kernel
theorem dX5_isWorn_12 : decode cX5_isWorn 12 = .ok (.iconst 2, 1) := by decide +kernel
theorem dX5_isWorn_13 : decode cX5_isWorn 13 = .ok (.aload_n 1, 1) := by decide +kernel
theorem dX5_isWorn_14 : decode cX5_isWorn 14 = .ok (.getfield 127, 3) := by decide +kernel
theorem dX5_isWorn_17 : decode cX5_isWorn 17 = .ok (.iload_n 2, 1) := by decide +kernel
theorem dX5_isWorn_18 : decode cX5_isWorn 18 = .ok (.invokevirtual 146, 3) := by decide +kernel
theorem dX5_isWorn_21 : decode cX5_isWorn 21 = .ok (.checkcast 75, 3) := by decide +kernel
theorem dX5_isWorn_24 : decode cX5_isWorn 24 = .ok (.getfield 206, 3) := by decide +kernel
theorem dX5_isWorn_27 : decode cX5_isWorn 27 = .ok (.imul, 1) := by decide +kernel
theorem dX5_isWorn_28 : decode cX5_isWorn 28 = .ok (.aload_n 0, 1) := by decide +kernel
theorem dX5_isWorn_29 : decode cX5_isWorn 29 = .ok (.getfield 28, 3) := by decide +kernel
theorem dX5_isWorn_32 : decode cX5_isWorn 32 = .ok (.if_icmp .lt 7, 3) := by decide +kernel
theorem dX5_isWorn_35 : decode cX5_isWorn 35 = .ok (.iconst 1, 1) := by decide +kernel
theorem dX5_isWorn_36 : decode cX5_isWorn 36 = .ok (.goto 4, 3) := by decide +kernel
theorem dX5_isWorn_39 : decode cX5_isWorn 39 = .ok (.iconst 0, 1) := by decide +kernel
theorem dX5_isWorn_40 : decode cX5_isWorn 40 = .ok (.ireturn, 1) := by decide +kernel
theorem dX5_isWearWithin_0 : decode cX5_isWearWithin 0 = .ok (.iconst 0, 1) := by decide +kernel
theorem dX5_isWearWithin_1 : decode cX5_isWearWithin 1 = .ok (.istore_n 2, 1) := by decide +kernel
theorem dX5_isWearWithin_2 : decode cX5_isWearWithin 2 = .ok (.iload_n 2, 1) := by decide +kernel
theorem dX5_isWearWithin_3 : decode cX5_isWearWithin 3 = .ok (.aload_n 0, 1) := by decide +kernel
theorem dX5_isWearWithin_4 : decode cX5_isWearWithin 4 = .ok (.getfield 19, 3) := by decide +kernel
theorem dX5_isWearWithin_7 : decode cX5_isWearWithin 7 = .ok (.invokevirtual 39, 3) := by decide +kernel
theorem dX5_isWearWithin_10 : decode cX5_isWearWithin 10 = .ok (.if_icmp .ge 30, 3) := by decide +kernel
theorem dX5_isWearWithin_13 : decode cX5_isWearWithin 13 = .ok (.aload_n 0, 1) := by decide +kernel
theorem dX5_isWearWithin_14 : decode cX5_isWearWithin 14 = .ok (.getfield 19, 3) := by decide +kernel
theorem dX5_isWearWithin_17 : decode cX5_isWearWithin 17 = .ok (.iload_n 2, 1) := by decide +kernel
theorem dX5_isWearWithin_18 : decode cX5_isWearWithin 18 = .ok (.invokevirtual 146, 3) := by decide +kernel
theorem dX5_isWearWithin_21 : decode cX5_isWearWithin 21 = .ok (.checkcast 86, 3) := by decide +kernel
theorem dX5_isWearWithin_24 : decode cX5_isWearWithin 24 = .ok (.iconst 0, 1) := by decide +kernel
theorem dX5_isWearWithin_25 : decode cX5_isWearWithin 25 = .ok (.iload_n 1, 1) := by decide +kernel
theorem dX5_isWearWithin_26 : decode cX5_isWearWithin 26 = .ok (.invokevirtual 189, 3) := by decide +kernel
theorem dX5_isWearWithin_29 : decode cX5_isWearWithin 29 = .ok (.ifCond .ne 5, 3) := by decide +kernel
theorem dX5_isWearWithin_32 : decode cX5_isWearWithin 32 = .ok (.iconst 0, 1) := by decide +kernel
theorem dX5_isWearWithin_33 : decode cX5_isWearWithin 33 = .ok (.ireturn, 1) := by decide +kernel
theorem dX5_isWearWithin_34 : decode cX5_isWearWithin 34 = .ok (.iinc 2 1, 3) := by decide +kernel
theorem dX5_isWearWithin_37 : decode cX5_isWearWithin 37 = .ok (.goto (-35), 3) := by decide +kernel
theorem dX5_isWearWithin_40 : decode cX5_isWearWithin 40 = .ok (.iconst 1, 1) := by decide +kernel
theorem dX5_isWearWithin_41 : decode cX5_isWearWithin 41 = .ok (.ireturn, 1) := by decide +kernel
theorem dX5_arePassedGradesSound_0 : decode cX5_arePassedGradesSound 0 = .ok (.iconst 0, 1) := by decide +kernel
theorem dX5_arePassedGradesSound_1 : decode cX5_arePassedGradesSound 1 = .ok (.istore_n 1, 1) := by decide +kernel
theorem dX5_arePassedGradesSound_2 : decode cX5_arePassedGradesSound 2 = .ok (.iload_n 1, 1) := by decide +kernel
theorem dX5_arePassedGradesSound_3 : decode cX5_arePassedGradesSound 3 = .ok (.aload_n 0, 1) := by decide +kernel
theorem dX5_arePassedGradesSound_4 : decode cX5_arePassedGradesSound 4 = .ok (.getfield 16, 3) := by decide +kernel
theorem dX5_arePassedGradesSound_7 : decode cX5_arePassedGradesSound 7 = .ok (.invokevirtual 39, 3) := by decide +kernel
theorem dX5_arePassedGradesSound_10 : decode cX5_arePassedGradesSound 10 = .ok (.if_icmp .ge 40, 3) := by decide +kernel
theorem dX5_arePassedGradesSound_13 : decode cX5_arePassedGradesSound 13 = .ok (.aload_n 0, 1) := by decide +kernel
theorem dX5_arePassedGradesSound_14 : decode cX5_arePassedGradesSound 14 = .ok (.getfield 16, 3) := by decide +kernel
theorem dX5_arePassedGradesSound_17 : decode cX5_arePassedGradesSound 17 = .ok (.iload_n 1, 1) := by decide +kernel
theorem dX5_arePassedGradesSound_18 : decode cX5_arePassedGradesSound 18 = .ok (.invokevirtual 146, 3) := by decide +kernel
theorem dX5_arePassedGradesSound_21 : decode cX5_arePassedGradesSound 21 = .ok (.checkcast 75, 3) := by decide +kernel
theorem dX5_arePassedGradesSound_24 : decode cX5_arePassedGradesSound 24 = .ok (.astore_n 2, 1) := by decide +kernel
theorem dX5_arePassedGradesSound_25 : decode cX5_arePassedGradesSound 25 = .ok (.aload_n 2, 1) := by decide +kernel
theorem dX5_arePassedGradesSound_26 : decode cX5_arePassedGradesSound 26 = .ok (.getfield 244, 3) := by decide +kernel
theorem dX5_arePassedGradesSound_29 : decode cX5_arePassedGradesSound 29 = .ok (.astore_n 3, 1) := by decide +kernel
theorem dX5_arePassedGradesSound_30 : decode cX5_arePassedGradesSound 30 = .ok (.aload_n 3, 1) := by decide +kernel
theorem dX5_arePassedGradesSound_31 : decode cX5_arePassedGradesSound 31 = .ok (.ifnull 13, 3) := by decide +kernel
theorem dX5_arePassedGradesSound_34 : decode cX5_arePassedGradesSound 34 = .ok (.aload_n 3, 1) := by decide +kernel
theorem dX5_arePassedGradesSound_35 : decode cX5_arePassedGradesSound 35 = .ok (.aload_n 2, 1) := by decide +kernel
theorem dX5_arePassedGradesSound_36 : decode cX5_arePassedGradesSound 36 = .ok (.invokevirtual 381, 3) := by decide +kernel
theorem dX5_arePassedGradesSound_39 : decode cX5_arePassedGradesSound 39 = .ok (.ifCond .ne 5, 3) := by decide +kernel
theorem dX5_arePassedGradesSound_42 : decode cX5_arePassedGradesSound 42 = .ok (.iconst 0, 1) := by decide +kernel
theorem dX5_arePassedGradesSound_43 : decode cX5_arePassedGradesSound 43 = .ok (.ireturn, 1) := by decide +kernel
theorem dX5_arePassedGradesSound_44 : decode cX5_arePassedGradesSound 44 = .ok (.iinc 1 1, 3) := by decide +kernel
theorem dX5_arePassedGradesSound_47 : decode cX5_arePassedGradesSound 47 = .ok (.goto (-45), 3) := by decide +kernel
theorem dX5_arePassedGradesSound_50 : decode cX5_arePassedGradesSound 50 = .ok (.iconst 1, 1) := by decide +kernel
theorem dX5_arePassedGradesSound_51 : decode cX5_arePassedGradesSound 51 = .ok (.ireturn, 1) := by decide +kernel
theorem dX5_areVersionLengthsSound_0 : decode cX5_areVersionLengthsSound 0 = .ok (.iconst 0, 1) := by decide +kernel
theorem dX5_areVersionLengthsSound_1 : decode cX5_areVersionLengthsSound 1 = .ok (.istore_n 1, 1) := by decide +kernel
theorem dX5_areVersionLengthsSound_2 : decode cX5_areVersionLengthsSound 2 = .ok (.iload_n 1, 1) := by decide +kernel
theorem dX5_areVersionLengthsSound_3 : decode cX5_areVersionLengthsSound 3 = .ok (.aload_n 0, 1) := by decide +kernel
theorem dX5_areVersionLengthsSound_4 : decode cX5_areVersionLengthsSound 4 = .ok (.getfield 22, 3) := by decide +kernel
theorem dX5_areVersionLengthsSound_7 : decode cX5_areVersionLengthsSound 7 = .ok (.invokevirtual 39, 3) := by decide +kernel
theorem dX5_areVersionLengthsSound_10 : decode cX5_areVersionLengthsSound 10 = .ok (.if_icmp .ge 34, 3) := by decide +kernel
theorem dX5_areVersionLengthsSound_13 : decode cX5_areVersionLengthsSound 13 = .ok (.aload_n 0, 1) := by decide +kernel
theorem dX5_areVersionLengthsSound_14 : decode cX5_areVersionLengthsSound 14 = .ok (.getfield 22, 3) := by decide +kernel
theorem dX5_areVersionLengthsSound_17 : decode cX5_areVersionLengthsSound 17 = .ok (.iload_n 1, 1) := by decide +kernel
theorem dX5_areVersionLengthsSound_18 : decode cX5_areVersionLengthsSound 18 = .ok (.invokevirtual 146, 3) := by decide +kernel
theorem dX5_areVersionLengthsSound_21 : decode cX5_areVersionLengthsSound 21 = .ok (.checkcast 264, 3) := by decide +kernel
theorem dX5_areVersionLengthsSound_24 : decode cX5_areVersionLengthsSound 24 = .ok (.astore_n 2, 1) := by decide +kernel
theorem dX5_areVersionLengthsSound_25 : decode cX5_areVersionLengthsSound 25 = .ok (.aload_n 2, 1) := by decide +kernel
theorem dX5_areVersionLengthsSound_26 : decode cX5_areVersionLengthsSound 26 = .ok (.invokevirtual 292, 3) := by decide +kernel
theorem dX5_areVersionLengthsSound_29 : decode cX5_areVersionLengthsSound 29 = .ok (.aload_n 2, 1) := by decide +kernel
theorem dX5_areVersionLengthsSound_30 : decode cX5_areVersionLengthsSound 30 = .ok (.invokevirtual 385, 3) := by decide +kernel
theorem dX5_areVersionLengthsSound_33 : decode cX5_areVersionLengthsSound 33 = .ok (.if_icmp .eq 5, 3) := by decide +kernel
theorem dX5_areVersionLengthsSound_36 : decode cX5_areVersionLengthsSound 36 = .ok (.iconst 0, 1) := by decide +kernel
theorem dX5_areVersionLengthsSound_37 : decode cX5_areVersionLengthsSound 37 = .ok (.ireturn, 1) := by decide +kernel
theorem dX5_areVersionLengthsSound_38 : decode cX5_areVersionLengthsSound 38 = .ok (.iinc 1 1, 3) := by decide +kernel
theorem dX5_areVersionLengthsSound_41 : decode cX5_areVersionLengthsSound 41 = .ok (.goto (-39), 3) := by decide +kernel
theorem dX5_areVersionLengthsSound_44 : decode cX5_areVersionLengthsSound 44 = .ok (.iconst 1, 1) := by decide +kernel
theorem dX5_areVersionLengthsSound_45 : decode cX5_areVersionLengthsSound 45 = .ok (.ireturn, 1) := by decide +kernel
theorem dJ13_bitCount_95d88_0 : decode cJ13_bitCount_95d88 0 = .ok (.lload_n 0, 1) := by decide +kernel
theorem dJ13_bitCount_95d88_1 : decode cJ13_bitCount_95d88 1 = .ok (.lload_n 0, 1) := by decide +kernel
theorem dJ13_bitCount_95d88_2 : decode cJ13_bitCount_95d88 2 = .ok (.iconst 1, 1) := by decide +kernel
theorem dJ13_bitCount_95d88_3 : decode cJ13_bitCount_95d88 3 = .ok (.lushr, 1) := by decide +kernel
theorem dJ13_bitCount_95d88_4 : decode cJ13_bitCount_95d88 4 = .ok (.ldc2_w 314, 3) := by decide +kernel
theorem dJ13_bitCount_95d88_7 : decode cJ13_bitCount_95d88 7 = .ok (.land, 1) := by decide +kernel
theorem dJ13_bitCount_95d88_8 : decode cJ13_bitCount_95d88 8 = .ok (.lsub, 1) := by decide +kernel
theorem dJ13_bitCount_95d88_9 : decode cJ13_bitCount_95d88 9 = .ok (.lstore_n 0, 1) := by decide +kernel
theorem dJ13_bitCount_95d88_10 : decode cJ13_bitCount_95d88 10 = .ok (.lload_n 0, 1) := by decide +kernel
theorem dJ13_bitCount_95d88_11 : decode cJ13_bitCount_95d88 11 = .ok (.ldc2_w 316, 3) := by decide +kernel
theorem dJ13_bitCount_95d88_14 : decode cJ13_bitCount_95d88 14 = .ok (.land, 1) := by decide +kernel
theorem dJ13_bitCount_95d88_15 : decode cJ13_bitCount_95d88 15 = .ok (.lload_n 0, 1) := by decide +kernel
theorem dJ13_bitCount_95d88_16 : decode cJ13_bitCount_95d88 16 = .ok (.iconst 2, 1) := by decide +kernel
theorem dJ13_bitCount_95d88_17 : decode cJ13_bitCount_95d88 17 = .ok (.lushr, 1) := by decide +kernel
theorem dJ13_bitCount_95d88_18 : decode cJ13_bitCount_95d88 18 = .ok (.ldc2_w 316, 3) := by decide +kernel
theorem dJ13_bitCount_95d88_21 : decode cJ13_bitCount_95d88 21 = .ok (.land, 1) := by decide +kernel
theorem dJ13_bitCount_95d88_22 : decode cJ13_bitCount_95d88 22 = .ok (.ladd, 1) := by decide +kernel
theorem dJ13_bitCount_95d88_23 : decode cJ13_bitCount_95d88 23 = .ok (.lstore_n 0, 1) := by decide +kernel
theorem dJ13_bitCount_95d88_24 : decode cJ13_bitCount_95d88 24 = .ok (.lload_n 0, 1) := by decide +kernel
theorem dJ13_bitCount_95d88_25 : decode cJ13_bitCount_95d88 25 = .ok (.lload_n 0, 1) := by decide +kernel
theorem dJ13_bitCount_95d88_26 : decode cJ13_bitCount_95d88 26 = .ok (.iconst 4, 1) := by decide +kernel
theorem dJ13_bitCount_95d88_27 : decode cJ13_bitCount_95d88 27 = .ok (.lushr, 1) := by decide +kernel
theorem dJ13_bitCount_95d88_28 : decode cJ13_bitCount_95d88 28 = .ok (.ladd, 1) := by decide +kernel
theorem dJ13_bitCount_95d88_29 : decode cJ13_bitCount_95d88 29 = .ok (.ldc2_w 318, 3) := by decide +kernel
theorem dJ13_bitCount_95d88_32 : decode cJ13_bitCount_95d88 32 = .ok (.land, 1) := by decide +kernel
theorem dJ13_bitCount_95d88_33 : decode cJ13_bitCount_95d88 33 = .ok (.lstore_n 0, 1) := by decide +kernel
theorem dJ13_bitCount_95d88_34 : decode cJ13_bitCount_95d88 34 = .ok (.lload_n 0, 1) := by decide +kernel
theorem dJ13_bitCount_95d88_35 : decode cJ13_bitCount_95d88 35 = .ok (.lload_n 0, 1) := by decide +kernel
theorem dJ13_bitCount_95d88_36 : decode cJ13_bitCount_95d88 36 = .ok (.bipush 8, 2) := by decide +kernel
theorem dJ13_bitCount_95d88_38 : decode cJ13_bitCount_95d88 38 = .ok (.lushr, 1) := by decide +kernel
theorem dJ13_bitCount_95d88_39 : decode cJ13_bitCount_95d88 39 = .ok (.ladd, 1) := by decide +kernel
theorem dJ13_bitCount_95d88_40 : decode cJ13_bitCount_95d88 40 = .ok (.lstore_n 0, 1) := by decide +kernel
theorem dJ13_bitCount_95d88_41 : decode cJ13_bitCount_95d88 41 = .ok (.lload_n 0, 1) := by decide +kernel
theorem dJ13_bitCount_95d88_42 : decode cJ13_bitCount_95d88 42 = .ok (.lload_n 0, 1) := by decide +kernel
theorem dJ13_bitCount_95d88_43 : decode cJ13_bitCount_95d88 43 = .ok (.bipush 16, 2) := by decide +kernel
theorem dJ13_bitCount_95d88_45 : decode cJ13_bitCount_95d88 45 = .ok (.lushr, 1) := by decide +kernel
theorem dJ13_bitCount_95d88_46 : decode cJ13_bitCount_95d88 46 = .ok (.ladd, 1) := by decide +kernel
theorem dJ13_bitCount_95d88_47 : decode cJ13_bitCount_95d88 47 = .ok (.lstore_n 0, 1) := by decide +kernel
theorem dJ13_bitCount_95d88_48 : decode cJ13_bitCount_95d88 48 = .ok (.lload_n 0, 1) := by decide +kernel
theorem dJ13_bitCount_95d88_49 : decode cJ13_bitCount_95d88 49 = .ok (.lload_n 0, 1) := by decide +kernel
theorem dJ13_bitCount_95d88_50 : decode cJ13_bitCount_95d88 50 = .ok (.bipush 32, 2) := by decide +kernel
theorem dJ13_bitCount_95d88_52 : decode cJ13_bitCount_95d88 52 = .ok (.lushr, 1) := by decide +kernel
theorem dJ13_bitCount_95d88_53 : decode cJ13_bitCount_95d88 53 = .ok (.ladd, 1) := by decide +kernel
theorem dJ13_bitCount_95d88_54 : decode cJ13_bitCount_95d88 54 = .ok (.lstore_n 0, 1) := by decide +kernel
theorem dJ13_bitCount_95d88_55 : decode cJ13_bitCount_95d88 55 = .ok (.lload_n 0, 1) := by decide +kernel
theorem dJ13_bitCount_95d88_56 : decode cJ13_bitCount_95d88 56 = .ok (.l2i, 1) := by decide +kernel
theorem dJ13_bitCount_95d88_57 : decode cJ13_bitCount_95d88 57 = .ok (.bipush 127, 2) := by decide +kernel
theorem dJ13_bitCount_95d88_59 : decode cJ13_bitCount_95d88 59 = .ok (.iand, 1) := by decide +kernel
theorem dJ13_bitCount_95d88_60 : decode cJ13_bitCount_95d88 60 = .ok (.ireturn, 1) := by decide +kernel
theorem dJxa1e45_init_da8c8_0 : decode cJxa1e45_init_da8c8 0 = .ok (.aload_n 0, 1) := by decide +kernel
theorem dJxa1e45_init_da8c8_1 : decode cJxa1e45_init_da8c8 1 = .ok (.invokespecial 1, 3) := by decide +kernel
theorem dJxa1e45_init_da8c8_4 : decode cJxa1e45_init_da8c8 4 = .ok (.return_, 1) := by decide +kernel
theorem dJxc12de_init_da8c8_0 : decode cJxc12de_init_da8c8 0 = .ok (.aload_n 0, 1) := by decide +kernel
theorem dJxc12de_init_da8c8_1 : decode cJxc12de_init_da8c8 1 = .ok (.invokespecial 1, 3) := by decide +kernel
theorem dJxc12de_init_da8c8_4 : decode cJxc12de_init_da8c8 4 = .ok (.aload_n 0, 1) := by decide +kernel
theorem dJxc12de_init_da8c8_5 : decode cJxc12de_init_da8c8 5 = .ok (.iconst 0, 1) := by decide +kernel
theorem dJxc12de_init_da8c8_6 : decode cJxc12de_init_da8c8 6 = .ok (.putfield 7, 3) := by decide +kernel
theorem dJxc12de_init_da8c8_9 : decode cJxc12de_init_da8c8 9 = .ok (.return_, 1) := by decide +kernel
theorem dJx4a65c_init_da8c8_0 : decode cJx4a65c_init_da8c8 0 = .ok (.aload_n 0, 1) := by decide +kernel
theorem dJx4a65c_init_da8c8_1 : decode cJx4a65c_init_da8c8 1 = .ok (.invokespecial 1, 3) := by decide +kernel
theorem dJx4a65c_init_da8c8_4 : decode cJx4a65c_init_da8c8 4 = .ok (.aload_n 0, 1) := by decide +kernel
theorem dJx4a65c_init_da8c8_5 : decode cJx4a65c_init_da8c8 5 = .ok (.getstatic 39, 3) := by decide +kernel
theorem dJx4a65c_init_da8c8_8 : decode cJx4a65c_init_da8c8 8 = .ok (.putfield 9, 3) := by decide +kernel
theorem dJx4a65c_init_da8c8_11 : decode cJx4a65c_init_da8c8 11 = .ok (.return_, 1) := by decide +kernel
theorem dJx4a65c_grow_92f84_0 : decode cJx4a65c_grow_92f84 0 = .ok (.aload_n 0, 1) := by decide +kernel
theorem dJx4a65c_grow_92f84_1 : decode cJx4a65c_grow_92f84 1 = .ok (.getfield 9, 3) := by decide +kernel
theorem dJx4a65c_grow_92f84_4 : decode cJx4a65c_grow_92f84 4 = .ok (.arraylength, 1) := by decide +kernel
theorem dJx4a65c_grow_92f84_5 : decode cJx4a65c_grow_92f84 5 = .ok (.istore_n 2, 1) := by decide +kernel
theorem dJx4a65c_grow_92f84_6 : decode cJx4a65c_grow_92f84 6 = .ok (.iload_n 2, 1) := by decide +kernel
theorem dJx4a65c_grow_92f84_7 : decode cJx4a65c_grow_92f84 7 = .ok (.ifCond .gt 13, 3) := by decide +kernel
theorem dJx4a65c_grow_92f84_10 : decode cJx4a65c_grow_92f84 10 = .ok (.aload_n 0, 1) := by decide +kernel
theorem dJx4a65c_grow_92f84_11 : decode cJx4a65c_grow_92f84 11 = .ok (.getfield 9, 3) := by decide +kernel
theorem dJx4a65c_grow_92f84_14 : decode cJx4a65c_grow_92f84 14 = .ok (.getstatic 39, 3) := by decide +kernel
theorem dJx4a65c_grow_92f84_17 : decode cJx4a65c_grow_92f84 17 = .ok (.if_acmp .eq 28, 3) := by decide +kernel
theorem dJx4a65c_grow_92f84_20 : decode cJx4a65c_grow_92f84 20 = .ok (.iload_n 2, 1) := by decide +kernel
theorem dJx4a65c_grow_92f84_21 : decode cJx4a65c_grow_92f84 21 = .ok (.iload_n 1, 1) := by decide +kernel
theorem dJx4a65c_grow_92f84_22 : decode cJx4a65c_grow_92f84 22 = .ok (.iload_n 2, 1) := by decide +kernel
theorem dJx4a65c_grow_92f84_23 : decode cJx4a65c_grow_92f84 23 = .ok (.isub, 1) := by decide +kernel
theorem dJx4a65c_grow_92f84_24 : decode cJx4a65c_grow_92f84 24 = .ok (.iload_n 2, 1) := by decide +kernel
theorem dJx4a65c_grow_92f84_25 : decode cJx4a65c_grow_92f84 25 = .ok (.iconst 1, 1) := by decide +kernel
theorem dJx4a65c_grow_92f84_26 : decode cJx4a65c_grow_92f84 26 = .ok (.ishr, 1) := by decide +kernel
theorem dJx4a65c_grow_92f84_27 : decode cJx4a65c_grow_92f84 27 = .ok (.invokestatic 73, 3) := by decide +kernel
theorem dJx4a65c_grow_92f84_30 : decode cJx4a65c_grow_92f84 30 = .ok (.istore_n 3, 1) := by decide +kernel
theorem dJx4a65c_grow_92f84_31 : decode cJx4a65c_grow_92f84 31 = .ok (.aload_n 0, 1) := by decide +kernel
theorem dJx4a65c_grow_92f84_32 : decode cJx4a65c_grow_92f84 32 = .ok (.aload_n 0, 1) := by decide +kernel
theorem dJx4a65c_grow_92f84_33 : decode cJx4a65c_grow_92f84 33 = .ok (.getfield 9, 3) := by decide +kernel
theorem dJx4a65c_grow_92f84_36 : decode cJx4a65c_grow_92f84 36 = .ok (.iload_n 3, 1) := by decide +kernel
theorem dJx4a65c_grow_92f84_37 : decode cJx4a65c_grow_92f84 37 = .ok (.invokestatic 66, 3) := by decide +kernel
theorem dJx4a65c_grow_92f84_40 : decode cJx4a65c_grow_92f84 40 = .ok (.dup_x1, 1) := by decide +kernel
theorem dJx4a65c_grow_92f84_41 : decode cJx4a65c_grow_92f84 41 = .ok (.putfield 9, 3) := by decide +kernel
theorem dJx4a65c_grow_92f84_44 : decode cJx4a65c_grow_92f84 44 = .ok (.areturn, 1) := by decide +kernel
theorem dJx4a65c_grow_92f84_45 : decode cJx4a65c_grow_92f84 45 = .ok (.aload_n 0, 1) := by decide +kernel
theorem dJx4a65c_grow_92f84_46 : decode cJx4a65c_grow_92f84 46 = .ok (.bipush 10, 2) := by decide +kernel
theorem dJx4a65c_grow_92f84_48 : decode cJx4a65c_grow_92f84 48 = .ok (.iload_n 1, 1) := by decide +kernel
theorem dJx4a65c_grow_92f84_49 : decode cJx4a65c_grow_92f84 49 = .ok (.invokestatic 79, 3) := by decide +kernel
theorem dJx4a65c_grow_92f84_52 : decode cJx4a65c_grow_92f84 52 = .ok (.anewarray 7, 3) := by decide +kernel
theorem dJx4a65c_grow_92f84_55 : decode cJx4a65c_grow_92f84 55 = .ok (.dup_x1, 1) := by decide +kernel
theorem dJx4a65c_grow_92f84_56 : decode cJx4a65c_grow_92f84 56 = .ok (.putfield 9, 3) := by decide +kernel
theorem dJx4a65c_grow_92f84_59 : decode cJx4a65c_grow_92f84 59 = .ok (.areturn, 1) := by decide +kernel
theorem dJx4a65c_grow_d5877_0 : decode cJx4a65c_grow_d5877 0 = .ok (.aload_n 0, 1) := by decide +kernel
theorem dJx4a65c_grow_d5877_1 : decode cJx4a65c_grow_d5877 1 = .ok (.aload_n 0, 1) := by decide +kernel
theorem dJx4a65c_grow_d5877_2 : decode cJx4a65c_grow_d5877 2 = .ok (.getfield 48, 3) := by decide +kernel
theorem dJx4a65c_grow_d5877_5 : decode cJx4a65c_grow_d5877 5 = .ok (.iconst 1, 1) := by decide +kernel
theorem dJx4a65c_grow_d5877_6 : decode cJx4a65c_grow_d5877 6 = .ok (.iadd, 1) := by decide +kernel
theorem dJx4a65c_grow_d5877_7 : decode cJx4a65c_grow_d5877 7 = .ok (.invokevirtual 69, 3) := by decide +kernel
theorem dJx4a65c_grow_d5877_10 : decode cJx4a65c_grow_d5877 10 = .ok (.areturn, 1) := by decide +kernel
theorem dJx4a65c_size_8abf5_0 : decode cJx4a65c_size_8abf5 0 = .ok (.aload_n 0, 1) := by decide +kernel
theorem dJx4a65c_size_8abf5_1 : decode cJx4a65c_size_8abf5 1 = .ok (.getfield 48, 3) := by decide +kernel
theorem dJx4a65c_size_8abf5_4 : decode cJx4a65c_size_8abf5 4 = .ok (.ireturn, 1) := by decide +kernel
theorem dJx4a65c_isEmpty_aae02_0 : decode cJx4a65c_isEmpty_aae02 0 = .ok (.aload_n 0, 1) := by decide +kernel
theorem dJx4a65c_isEmpty_aae02_1 : decode cJx4a65c_isEmpty_aae02 1 = .ok (.getfield 48, 3) := by decide +kernel
theorem dJx4a65c_isEmpty_aae02_4 : decode cJx4a65c_isEmpty_aae02 4 = .ok (.ifCond .ne 7, 3) := by decide +kernel
theorem dJx4a65c_isEmpty_aae02_7 : decode cJx4a65c_isEmpty_aae02 7 = .ok (.iconst 1, 1) := by decide +kernel
theorem dJx4a65c_isEmpty_aae02_8 : decode cJx4a65c_isEmpty_aae02 8 = .ok (.goto 4, 3) := by decide +kernel
theorem dJx4a65c_isEmpty_aae02_11 : decode cJx4a65c_isEmpty_aae02 11 = .ok (.iconst 0, 1) := by decide +kernel
theorem dJx4a65c_isEmpty_aae02_12 : decode cJx4a65c_isEmpty_aae02 12 = .ok (.ireturn, 1) := by decide +kernel
theorem dJx4a65c_elementData_915e3_0 : decode cJx4a65c_elementData_915e3 0 = .ok (.aload_n 0, 1) := by decide +kernel
theorem dJx4a65c_elementData_915e3_1 : decode cJx4a65c_elementData_915e3 1 = .ok (.getfield 9, 3) := by decide +kernel
theorem dJx4a65c_elementData_915e3_4 : decode cJx4a65c_elementData_915e3 4 = .ok (.iload_n 1, 1) := by decide +kernel
theorem dJx4a65c_elementData_915e3_5 : decode cJx4a65c_elementData_915e3 5 = .ok (.aaload, 1) := by decide +kernel
theorem dJx4a65c_elementData_915e3_6 : decode cJx4a65c_elementData_915e3 6 = .ok (.areturn, 1) := by decide +kernel
theorem dJx4a65c_get_915e3_0 : decode cJx4a65c_get_915e3 0 = .ok (.iload_n 1, 1) := by decide +kernel
theorem dJx4a65c_get_915e3_1 : decode cJx4a65c_get_915e3 1 = .ok (.aload_n 0, 1) := by decide +kernel
theorem dJx4a65c_get_915e3_2 : decode cJx4a65c_get_915e3 2 = .ok (.getfield 48, 3) := by decide +kernel
theorem dJx4a65c_get_915e3_5 : decode cJx4a65c_get_915e3 5 = .ok (.invokestatic 118, 3) := by decide +kernel
theorem dJx4a65c_get_915e3_8 : decode cJx4a65c_get_915e3 8 = .ok (.pop, 1) := by decide +kernel
theorem dJx4a65c_get_915e3_9 : decode cJx4a65c_get_915e3 9 = .ok (.aload_n 0, 1) := by decide +kernel
theorem dJx4a65c_get_915e3_10 : decode cJx4a65c_get_915e3 10 = .ok (.iload_n 1, 1) := by decide +kernel
theorem dJx4a65c_get_915e3_11 : decode cJx4a65c_get_915e3 11 = .ok (.invokevirtual 123, 3) := by decide +kernel
theorem dJx4a65c_get_915e3_14 : decode cJx4a65c_get_915e3 14 = .ok (.areturn, 1) := by decide +kernel
theorem dJx4a65c_add_72be8_0 : decode cJx4a65c_add_72be8 0 = .ok (.iload_n 3, 1) := by decide +kernel
theorem dJx4a65c_add_72be8_1 : decode cJx4a65c_add_72be8 1 = .ok (.aload_n 2, 1) := by decide +kernel
theorem dJx4a65c_add_72be8_2 : decode cJx4a65c_add_72be8 2 = .ok (.arraylength, 1) := by decide +kernel
theorem dJx4a65c_add_72be8_3 : decode cJx4a65c_add_72be8 3 = .ok (.if_icmp .ne 8, 3) := by decide +kernel
theorem dJx4a65c_add_72be8_6 : decode cJx4a65c_add_72be8 6 = .ok (.aload_n 0, 1) := by decide +kernel
theorem dJx4a65c_add_72be8_7 : decode cJx4a65c_add_72be8 7 = .ok (.invokevirtual 129, 3) := by decide +kernel
theorem dJx4a65c_add_72be8_10 : decode cJx4a65c_add_72be8 10 = .ok (.astore_n 2, 1) := by decide +kernel
theorem dJx4a65c_add_72be8_11 : decode cJx4a65c_add_72be8 11 = .ok (.aload_n 2, 1) := by decide +kernel
theorem dJx4a65c_add_72be8_12 : decode cJx4a65c_add_72be8 12 = .ok (.iload_n 3, 1) := by decide +kernel
theorem dJx4a65c_add_72be8_13 : decode cJx4a65c_add_72be8 13 = .ok (.aload_n 1, 1) := by decide +kernel
theorem dJx4a65c_add_72be8_14 : decode cJx4a65c_add_72be8 14 = .ok (.aastore, 1) := by decide +kernel
theorem dJx4a65c_add_72be8_15 : decode cJx4a65c_add_72be8 15 = .ok (.aload_n 0, 1) := by decide +kernel
theorem dJx4a65c_add_72be8_16 : decode cJx4a65c_add_72be8 16 = .ok (.iload_n 3, 1) := by decide +kernel
theorem dJx4a65c_add_72be8_17 : decode cJx4a65c_add_72be8 17 = .ok (.iconst 1, 1) := by decide +kernel
theorem dJx4a65c_add_72be8_18 : decode cJx4a65c_add_72be8 18 = .ok (.iadd, 1) := by decide +kernel
theorem dJx4a65c_add_72be8_19 : decode cJx4a65c_add_72be8 19 = .ok (.putfield 48, 3) := by decide +kernel
theorem dJx4a65c_add_72be8_22 : decode cJx4a65c_add_72be8 22 = .ok (.return_, 1) := by decide +kernel
theorem dJx4a65c_add_9ea2d_0 : decode cJx4a65c_add_9ea2d 0 = .ok (.aload_n 0, 1) := by decide +kernel
theorem dJx4a65c_add_9ea2d_1 : decode cJx4a65c_add_9ea2d 1 = .ok (.dup, 1) := by decide +kernel
theorem dJx4a65c_add_9ea2d_2 : decode cJx4a65c_add_9ea2d 2 = .ok (.getfield 63, 3) := by decide +kernel
theorem dJx4a65c_add_9ea2d_5 : decode cJx4a65c_add_9ea2d 5 = .ok (.iconst 1, 1) := by decide +kernel
theorem dJx4a65c_add_9ea2d_6 : decode cJx4a65c_add_9ea2d 6 = .ok (.iadd, 1) := by decide +kernel
theorem dJx4a65c_add_9ea2d_7 : decode cJx4a65c_add_9ea2d 7 = .ok (.putfield 63, 3) := by decide +kernel
theorem dJx4a65c_add_9ea2d_10 : decode cJx4a65c_add_9ea2d 10 = .ok (.aload_n 0, 1) := by decide +kernel
theorem dJx4a65c_add_9ea2d_11 : decode cJx4a65c_add_9ea2d 11 = .ok (.aload_n 1, 1) := by decide +kernel
theorem dJx4a65c_add_9ea2d_12 : decode cJx4a65c_add_9ea2d 12 = .ok (.aload_n 0, 1) := by decide +kernel
theorem dJx4a65c_add_9ea2d_13 : decode cJx4a65c_add_9ea2d 13 = .ok (.getfield 9, 3) := by decide +kernel
theorem dJx4a65c_add_9ea2d_16 : decode cJx4a65c_add_9ea2d 16 = .ok (.aload_n 0, 1) := by decide +kernel
theorem dJx4a65c_add_9ea2d_17 : decode cJx4a65c_add_9ea2d 17 = .ok (.getfield 48, 3) := by decide +kernel
theorem dJx4a65c_add_9ea2d_20 : decode cJx4a65c_add_9ea2d 20 = .ok (.invokevirtual 131, 3) := by decide +kernel
theorem dJx4a65c_add_9ea2d_23 : decode cJx4a65c_add_9ea2d 23 = .ok (.iconst 1, 1) := by decide +kernel
theorem dJx4a65c_add_9ea2d_24 : decode cJx4a65c_add_9ea2d 24 = .ok (.ireturn, 1) := by decide +kernel
theorem dJx4a65c_add_7a177_0 : decode cJx4a65c_add_7a177 0 = .ok (.aload_n 0, 1) := by decide +kernel
theorem dJx4a65c_add_7a177_1 : decode cJx4a65c_add_7a177 1 = .ok (.iload_n 1, 1) := by decide +kernel
theorem dJx4a65c_add_7a177_2 : decode cJx4a65c_add_7a177 2 = .ok (.invokevirtual 135, 3) := by decide +kernel
theorem dJx4a65c_add_7a177_5 : decode cJx4a65c_add_7a177 5 = .ok (.aload_n 0, 1) := by decide +kernel
theorem dJx4a65c_add_7a177_6 : decode cJx4a65c_add_7a177 6 = .ok (.dup, 1) := by decide +kernel
theorem dJx4a65c_add_7a177_7 : decode cJx4a65c_add_7a177 7 = .ok (.getfield 63, 3) := by decide +kernel
theorem dJx4a65c_add_7a177_10 : decode cJx4a65c_add_7a177 10 = .ok (.iconst 1, 1) := by decide +kernel
theorem dJx4a65c_add_7a177_11 : decode cJx4a65c_add_7a177 11 = .ok (.iadd, 1) := by decide +kernel
theorem dJx4a65c_add_7a177_12 : decode cJx4a65c_add_7a177 12 = .ok (.putfield 63, 3) := by decide +kernel
theorem dJx4a65c_add_7a177_15 : decode cJx4a65c_add_7a177 15 = .ok (.aload_n 0, 1) := by decide +kernel
theorem dJx4a65c_add_7a177_16 : decode cJx4a65c_add_7a177 16 = .ok (.getfield 48, 3) := by decide +kernel
theorem dJx4a65c_add_7a177_19 : decode cJx4a65c_add_7a177 19 = .ok (.dup, 1) := by decide +kernel
theorem dJx4a65c_add_7a177_20 : decode cJx4a65c_add_7a177 20 = .ok (.istore_n 3, 1) := by decide +kernel
theorem dJx4a65c_add_7a177_21 : decode cJx4a65c_add_7a177 21 = .ok (.aload_n 0, 1) := by decide +kernel
theorem dJx4a65c_add_7a177_22 : decode cJx4a65c_add_7a177 22 = .ok (.getfield 9, 3) := by decide +kernel
theorem dJx4a65c_add_7a177_25 : decode cJx4a65c_add_7a177 25 = .ok (.dup, 1) := by decide +kernel
theorem dJx4a65c_add_7a177_26 : decode cJx4a65c_add_7a177 26 = .ok (.astore 4, 2) := by decide +kernel
theorem dJx4a65c_add_7a177_28 : decode cJx4a65c_add_7a177 28 = .ok (.arraylength, 1) := by decide +kernel
theorem dJx4a65c_add_7a177_29 : decode cJx4a65c_add_7a177 29 = .ok (.if_icmp .ne 9, 3) := by decide +kernel
theorem dJx4a65c_add_7a177_32 : decode cJx4a65c_add_7a177 32 = .ok (.aload_n 0, 1) := by decide +kernel
theorem dJx4a65c_add_7a177_33 : decode cJx4a65c_add_7a177 33 = .ok (.invokevirtual 129, 3) := by decide +kernel
theorem dJx4a65c_add_7a177_36 : decode cJx4a65c_add_7a177 36 = .ok (.astore 4, 2) := by decide +kernel
theorem dJx4a65c_add_7a177_38 : decode cJx4a65c_add_7a177 38 = .ok (.aload 4, 2) := by decide +kernel
theorem dJx4a65c_add_7a177_40 : decode cJx4a65c_add_7a177 40 = .ok (.iload_n 1, 1) := by decide +kernel
theorem dJx4a65c_add_7a177_41 : decode cJx4a65c_add_7a177 41 = .ok (.aload 4, 2) := by decide +kernel
theorem dJx4a65c_add_7a177_43 : decode cJx4a65c_add_7a177 43 = .ok (.iload_n 1, 1) := by decide +kernel
theorem dJx4a65c_add_7a177_44 : decode cJx4a65c_add_7a177 44 = .ok (.iconst 1, 1) := by decide +kernel
theorem dJx4a65c_add_7a177_45 : decode cJx4a65c_add_7a177 45 = .ok (.iadd, 1) := by decide +kernel
theorem dJx4a65c_add_7a177_46 : decode cJx4a65c_add_7a177 46 = .ok (.iload_n 3, 1) := by decide +kernel
theorem dJx4a65c_add_7a177_47 : decode cJx4a65c_add_7a177 47 = .ok (.iload_n 1, 1) := by decide +kernel
theorem dJx4a65c_add_7a177_48 : decode cJx4a65c_add_7a177 48 = .ok (.isub, 1) := by decide +kernel
theorem dJx4a65c_add_7a177_49 : decode cJx4a65c_add_7a177 49 = .ok (.invokestatic 112, 3) := by decide +kernel
theorem dJx4a65c_add_7a177_52 : decode cJx4a65c_add_7a177 52 = .ok (.aload 4, 2) := by decide +kernel
theorem dJx4a65c_add_7a177_54 : decode cJx4a65c_add_7a177 54 = .ok (.iload_n 1, 1) := by decide +kernel
theorem dJx4a65c_add_7a177_55 : decode cJx4a65c_add_7a177 55 = .ok (.aload_n 2, 1) := by decide +kernel
theorem dJx4a65c_add_7a177_56 : decode cJx4a65c_add_7a177 56 = .ok (.aastore, 1) := by decide +kernel
theorem dJx4a65c_add_7a177_57 : decode cJx4a65c_add_7a177 57 = .ok (.aload_n 0, 1) := by decide +kernel
theorem dJx4a65c_add_7a177_58 : decode cJx4a65c_add_7a177 58 = .ok (.iload_n 3, 1) := by decide +kernel
theorem dJx4a65c_add_7a177_59 : decode cJx4a65c_add_7a177 59 = .ok (.iconst 1, 1) := by decide +kernel
theorem dJx4a65c_add_7a177_60 : decode cJx4a65c_add_7a177 60 = .ok (.iadd, 1) := by decide +kernel
theorem dJx4a65c_add_7a177_61 : decode cJx4a65c_add_7a177 61 = .ok (.putfield 48, 3) := by decide +kernel
theorem dJx4a65c_add_7a177_64 : decode cJx4a65c_add_7a177 64 = .ok (.return_, 1) := by decide +kernel
theorem dJx4a65c_clear_da8c8_0 : decode cJx4a65c_clear_da8c8 0 = .ok (.aload_n 0, 1) := by decide +kernel
theorem dJx4a65c_clear_da8c8_1 : decode cJx4a65c_clear_da8c8 1 = .ok (.dup, 1) := by decide +kernel
theorem dJx4a65c_clear_da8c8_2 : decode cJx4a65c_clear_da8c8 2 = .ok (.getfield 63, 3) := by decide +kernel
theorem dJx4a65c_clear_da8c8_5 : decode cJx4a65c_clear_da8c8 5 = .ok (.iconst 1, 1) := by decide +kernel
theorem dJx4a65c_clear_da8c8_6 : decode cJx4a65c_clear_da8c8 6 = .ok (.iadd, 1) := by decide +kernel
theorem dJx4a65c_clear_da8c8_7 : decode cJx4a65c_clear_da8c8 7 = .ok (.putfield 63, 3) := by decide +kernel
theorem dJx4a65c_clear_da8c8_10 : decode cJx4a65c_clear_da8c8 10 = .ok (.aload_n 0, 1) := by decide +kernel
theorem dJx4a65c_clear_da8c8_11 : decode cJx4a65c_clear_da8c8 11 = .ok (.getfield 9, 3) := by decide +kernel
theorem dJx4a65c_clear_da8c8_14 : decode cJx4a65c_clear_da8c8 14 = .ok (.astore_n 1, 1) := by decide +kernel
theorem dJx4a65c_clear_da8c8_15 : decode cJx4a65c_clear_da8c8 15 = .ok (.aload_n 0, 1) := by decide +kernel
theorem dJx4a65c_clear_da8c8_16 : decode cJx4a65c_clear_da8c8 16 = .ok (.getfield 48, 3) := by decide +kernel
theorem dJx4a65c_clear_da8c8_19 : decode cJx4a65c_clear_da8c8 19 = .ok (.istore_n 2, 1) := by decide +kernel
theorem dJx4a65c_clear_da8c8_20 : decode cJx4a65c_clear_da8c8 20 = .ok (.aload_n 0, 1) := by decide +kernel
theorem dJx4a65c_clear_da8c8_21 : decode cJx4a65c_clear_da8c8 21 = .ok (.iconst 0, 1) := by decide +kernel
theorem dJx4a65c_clear_da8c8_22 : decode cJx4a65c_clear_da8c8 22 = .ok (.dup_x1, 1) := by decide +kernel
theorem dJx4a65c_clear_da8c8_23 : decode cJx4a65c_clear_da8c8 23 = .ok (.putfield 48, 3) := by decide +kernel
theorem dJx4a65c_clear_da8c8_26 : decode cJx4a65c_clear_da8c8 26 = .ok (.istore_n 3, 1) := by decide +kernel
theorem dJx4a65c_clear_da8c8_27 : decode cJx4a65c_clear_da8c8 27 = .ok (.iload_n 3, 1) := by decide +kernel
theorem dJx4a65c_clear_da8c8_28 : decode cJx4a65c_clear_da8c8 28 = .ok (.iload_n 2, 1) := by decide +kernel
theorem dJx4a65c_clear_da8c8_29 : decode cJx4a65c_clear_da8c8 29 = .ok (.if_icmp .ge 13, 3) := by decide +kernel
theorem dJx4a65c_clear_da8c8_32 : decode cJx4a65c_clear_da8c8 32 = .ok (.aload_n 1, 1) := by decide +kernel
theorem dJx4a65c_clear_da8c8_33 : decode cJx4a65c_clear_da8c8 33 = .ok (.iload_n 3, 1) := by decide +kernel
theorem dJx4a65c_clear_da8c8_34 : decode cJx4a65c_clear_da8c8 34 = .ok (.aconst_null, 1) := by decide +kernel
theorem dJx4a65c_clear_da8c8_35 : decode cJx4a65c_clear_da8c8 35 = .ok (.aastore, 1) := by decide +kernel
theorem dJx4a65c_clear_da8c8_36 : decode cJx4a65c_clear_da8c8 36 = .ok (.iinc 3 1, 3) := by decide +kernel
theorem dJx4a65c_clear_da8c8_39 : decode cJx4a65c_clear_da8c8 39 = .ok (.goto (-12), 3) := by decide +kernel
theorem dJx4a65c_clear_da8c8_42 : decode cJx4a65c_clear_da8c8 42 = .ok (.return_, 1) := by decide +kernel
theorem dJx4a65c_rangeCheckForAdd_d00df_0 : decode cJx4a65c_rangeCheckForAdd_d00df 0 = .ok (.iload_n 1, 1) := by decide +kernel
theorem dJx4a65c_rangeCheckForAdd_d00df_1 : decode cJx4a65c_rangeCheckForAdd_d00df 1 = .ok (.aload_n 0, 1) := by decide +kernel
theorem dJx4a65c_rangeCheckForAdd_d00df_2 : decode cJx4a65c_rangeCheckForAdd_d00df 2 = .ok (.getfield 48, 3) := by decide +kernel
theorem dJx4a65c_rangeCheckForAdd_d00df_5 : decode cJx4a65c_rangeCheckForAdd_d00df 5 = .ok (.if_icmp .gt 7, 3) := by decide +kernel
theorem dJx4a65c_rangeCheckForAdd_d00df_8 : decode cJx4a65c_rangeCheckForAdd_d00df 8 = .ok (.iload_n 1, 1) := by decide +kernel
theorem dJx4a65c_rangeCheckForAdd_d00df_9 : decode cJx4a65c_rangeCheckForAdd_d00df 9 = .ok (.ifCond .ge 16, 3) := by decide +kernel
theorem dJx4a65c_rangeCheckForAdd_d00df_12 : decode cJx4a65c_rangeCheckForAdd_d00df 12 = .ok (.new 187, 3) := by decide +kernel
theorem dJx4a65c_rangeCheckForAdd_d00df_15 : decode cJx4a65c_rangeCheckForAdd_d00df 15 = .ok (.dup, 1) := by decide +kernel
theorem dJx4a65c_rangeCheckForAdd_d00df_16 : decode cJx4a65c_rangeCheckForAdd_d00df 16 = .ok (.aload_n 0, 1) := by decide +kernel
theorem dJx4a65c_rangeCheckForAdd_d00df_17 : decode cJx4a65c_rangeCheckForAdd_d00df 17 = .ok (.iload_n 1, 1) := by decide +kernel
theorem dJx4a65c_rangeCheckForAdd_d00df_18 : decode cJx4a65c_rangeCheckForAdd_d00df 18 = .ok (.invokevirtual 198, 3) := by decide +kernel
theorem dJx4a65c_rangeCheckForAdd_d00df_21 : decode cJx4a65c_rangeCheckForAdd_d00df 21 = .ok (.invokespecial 193, 3) := by decide +kernel
theorem dJx4a65c_rangeCheckForAdd_d00df_24 : decode cJx4a65c_rangeCheckForAdd_d00df 24 = .ok (.athrow, 1) := by decide +kernel
theorem dJx4a65c_rangeCheckForAdd_d00df_25 : decode cJx4a65c_rangeCheckForAdd_d00df 25 = .ok (.return_, 1) := by decide +kernel
theorem dJx4a65c_outOfBoundsMsg_b52d3_0 : decode cJx4a65c_outOfBoundsMsg_b52d3 0 = .ok (.new 20, 3) := by decide +kernel
theorem dJx4a65c_outOfBoundsMsg_b52d3_3 : decode cJx4a65c_outOfBoundsMsg_b52d3 3 = .ok (.dup, 1) := by decide +kernel
theorem dJx4a65c_outOfBoundsMsg_b52d3_4 : decode cJx4a65c_outOfBoundsMsg_b52d3 4 = .ok (.invokespecial 22, 3) := by decide +kernel
theorem dJx4a65c_outOfBoundsMsg_b52d3_7 : decode cJx4a65c_outOfBoundsMsg_b52d3 7 = .ok (.ldc 201, 2) := by decide +kernel
theorem dJx4a65c_outOfBoundsMsg_b52d3_9 : decode cJx4a65c_outOfBoundsMsg_b52d3 9 = .ok (.invokevirtual 25, 3) := by decide +kernel
theorem dJx4a65c_outOfBoundsMsg_b52d3_12 : decode cJx4a65c_outOfBoundsMsg_b52d3 12 = .ok (.iload_n 1, 1) := by decide +kernel
theorem dJx4a65c_outOfBoundsMsg_b52d3_13 : decode cJx4a65c_outOfBoundsMsg_b52d3 13 = .ok (.invokevirtual 29, 3) := by decide +kernel
theorem dJx4a65c_outOfBoundsMsg_b52d3_16 : decode cJx4a65c_outOfBoundsMsg_b52d3 16 = .ok (.ldc 203, 2) := by decide +kernel
theorem dJx4a65c_outOfBoundsMsg_b52d3_18 : decode cJx4a65c_outOfBoundsMsg_b52d3 18 = .ok (.invokevirtual 25, 3) := by decide +kernel
theorem dJx4a65c_outOfBoundsMsg_b52d3_21 : decode cJx4a65c_outOfBoundsMsg_b52d3 21 = .ok (.aload_n 0, 1) := by decide +kernel
theorem dJx4a65c_outOfBoundsMsg_b52d3_22 : decode cJx4a65c_outOfBoundsMsg_b52d3 22 = .ok (.getfield 48, 3) := by decide +kernel
theorem dJx4a65c_outOfBoundsMsg_b52d3_25 : decode cJx4a65c_outOfBoundsMsg_b52d3 25 = .ok (.invokevirtual 29, 3) := by decide +kernel
theorem dJx4a65c_outOfBoundsMsg_b52d3_28 : decode cJx4a65c_outOfBoundsMsg_b52d3 28 = .ok (.invokevirtual 32, 3) := by decide +kernel
theorem dJx4a65c_outOfBoundsMsg_b52d3_31 : decode cJx4a65c_outOfBoundsMsg_b52d3 31 = .ok (.areturn, 1) := by decide +kernel
theorem dJ7_copyOf_1904c_0 : decode cJ7_copyOf_1904c 0 = .ok (.aload_n 0, 1) := by decide +kernel
theorem dJ7_copyOf_1904c_1 : decode cJ7_copyOf_1904c 1 = .ok (.iload_n 1, 1) := by decide +kernel
theorem dJ7_copyOf_1904c_2 : decode cJ7_copyOf_1904c 2 = .ok (.aload_n 0, 1) := by decide +kernel
theorem dJ7_copyOf_1904c_3 : decode cJ7_copyOf_1904c 3 = .ok (.invokevirtual 86, 3) := by decide +kernel
theorem dJ7_copyOf_1904c_6 : decode cJ7_copyOf_1904c 6 = .ok (.invokestatic 300, 3) := by decide +kernel
theorem dJ7_copyOf_1904c_9 : decode cJ7_copyOf_1904c 9 = .ok (.areturn, 1) := by decide +kernel
theorem dJ7_copyOf_6403c_0 : decode cJ7_copyOf_6403c 0 = .ok (.aload_n 2, 1) := by decide +kernel
theorem dJ7_copyOf_6403c_1 : decode cJ7_copyOf_6403c 1 = .ok (.ldc 110, 2) := by decide +kernel
theorem dJ7_copyOf_6403c_3 : decode cJ7_copyOf_6403c 3 = .ok (.if_acmp .ne 10, 3) := by decide +kernel
theorem dJ7_copyOf_6403c_6 : decode cJ7_copyOf_6403c 6 = .ok (.iload_n 1, 1) := by decide +kernel
theorem dJ7_copyOf_6403c_7 : decode cJ7_copyOf_6403c 7 = .ok (.anewarray 2, 3) := by decide +kernel
theorem dJ7_copyOf_6403c_10 : decode cJ7_copyOf_6403c 10 = .ok (.goto 14, 3) := by decide +kernel
theorem dJ7_copyOf_6403c_13 : decode cJ7_copyOf_6403c 13 = .ok (.aload_n 2, 1) := by decide +kernel
theorem dJ7_copyOf_6403c_14 : decode cJ7_copyOf_6403c 14 = .ok (.invokevirtual 90, 3) := by decide +kernel
theorem dJ7_copyOf_6403c_17 : decode cJ7_copyOf_6403c 17 = .ok (.iload_n 1, 1) := by decide +kernel
theorem dJ7_copyOf_6403c_18 : decode cJ7_copyOf_6403c 18 = .ok (.invokestatic 95, 3) := by decide +kernel
theorem dJ7_copyOf_6403c_21 : decode cJ7_copyOf_6403c 21 = .ok (.checkcast 110, 3) := by decide +kernel
theorem dJ7_copyOf_6403c_24 : decode cJ7_copyOf_6403c 24 = .ok (.astore_n 3, 1) := by decide +kernel
theorem dJ7_copyOf_6403c_25 : decode cJ7_copyOf_6403c 25 = .ok (.aload_n 0, 1) := by decide +kernel
theorem dJ7_copyOf_6403c_26 : decode cJ7_copyOf_6403c 26 = .ok (.iconst 0, 1) := by decide +kernel
theorem dJ7_copyOf_6403c_27 : decode cJ7_copyOf_6403c 27 = .ok (.aload_n 3, 1) := by decide +kernel
theorem dJ7_copyOf_6403c_28 : decode cJ7_copyOf_6403c 28 = .ok (.iconst 0, 1) := by decide +kernel
theorem dJ7_copyOf_6403c_29 : decode cJ7_copyOf_6403c 29 = .ok (.aload_n 0, 1) := by decide +kernel
theorem dJ7_copyOf_6403c_30 : decode cJ7_copyOf_6403c 30 = .ok (.arraylength, 1) := by decide +kernel
theorem dJ7_copyOf_6403c_31 : decode cJ7_copyOf_6403c 31 = .ok (.iload_n 1, 1) := by decide +kernel
theorem dJ7_copyOf_6403c_32 : decode cJ7_copyOf_6403c 32 = .ok (.invokestatic 304, 3) := by decide +kernel
theorem dJ7_copyOf_6403c_35 : decode cJ7_copyOf_6403c 35 = .ok (.invokestatic 150, 3) := by decide +kernel
theorem dJ7_copyOf_6403c_38 : decode cJ7_copyOf_6403c 38 = .ok (.aload_n 3, 1) := by decide +kernel
theorem dJ7_copyOf_6403c_39 : decode cJ7_copyOf_6403c 39 = .ok (.areturn, 1) := by decide +kernel
theorem dJ7_copyOf_9075b_0 : decode cJ7_copyOf_9075b 0 = .ok (.iload_n 1, 1) := by decide +kernel
theorem dJ7_copyOf_9075b_1 : decode cJ7_copyOf_9075b 1 = .ok (.aload_n 0, 1) := by decide +kernel
theorem dJ7_copyOf_9075b_2 : decode cJ7_copyOf_9075b 2 = .ok (.arraylength, 1) := by decide +kernel
theorem dJ7_copyOf_9075b_3 : decode cJ7_copyOf_9075b 3 = .ok (.if_icmp .ne 11, 3) := by decide +kernel
theorem dJ7_copyOf_9075b_6 : decode cJ7_copyOf_9075b 6 = .ok (.aload_n 0, 1) := by decide +kernel
theorem dJ7_copyOf_9075b_7 : decode cJ7_copyOf_9075b 7 = .ok (.invokevirtual 310, 3) := by decide +kernel
theorem dJ7_copyOf_9075b_10 : decode cJ7_copyOf_9075b 10 = .ok (.checkcast 311, 3) := by decide +kernel
theorem dJ7_copyOf_9075b_13 : decode cJ7_copyOf_9075b 13 = .ok (.areturn, 1) := by decide +kernel
theorem dJ7_copyOf_9075b_14 : decode cJ7_copyOf_9075b 14 = .ok (.iload_n 1, 1) := by decide +kernel
theorem dJ7_copyOf_9075b_15 : decode cJ7_copyOf_9075b 15 = .ok (.newarray .byte, 2) := by decide +kernel
theorem dJ7_copyOf_9075b_17 : decode cJ7_copyOf_9075b 17 = .ok (.astore_n 2, 1) := by decide +kernel
theorem dJ7_copyOf_9075b_18 : decode cJ7_copyOf_9075b 18 = .ok (.aload_n 0, 1) := by decide +kernel
theorem dJ7_copyOf_9075b_19 : decode cJ7_copyOf_9075b 19 = .ok (.iconst 0, 1) := by decide +kernel
theorem dJ7_copyOf_9075b_20 : decode cJ7_copyOf_9075b 20 = .ok (.aload_n 2, 1) := by decide +kernel
theorem dJ7_copyOf_9075b_21 : decode cJ7_copyOf_9075b 21 = .ok (.iconst 0, 1) := by decide +kernel
theorem dJ7_copyOf_9075b_22 : decode cJ7_copyOf_9075b 22 = .ok (.aload_n 0, 1) := by decide +kernel
theorem dJ7_copyOf_9075b_23 : decode cJ7_copyOf_9075b 23 = .ok (.arraylength, 1) := by decide +kernel
theorem dJ7_copyOf_9075b_24 : decode cJ7_copyOf_9075b 24 = .ok (.iload_n 1, 1) := by decide +kernel
theorem dJ7_copyOf_9075b_25 : decode cJ7_copyOf_9075b 25 = .ok (.invokestatic 304, 3) := by decide +kernel
theorem dJ7_copyOf_9075b_28 : decode cJ7_copyOf_9075b 28 = .ok (.invokestatic 150, 3) := by decide +kernel
theorem dJ7_copyOf_9075b_31 : decode cJ7_copyOf_9075b 31 = .ok (.aload_n 2, 1) := by decide +kernel
theorem dJ7_copyOf_9075b_32 : decode cJ7_copyOf_9075b 32 = .ok (.areturn, 1) := by decide +kernel
theorem dJ7_copyOfRange_39247_0 : decode cJ7_copyOfRange_39247 0 = .ok (.iload_n 1, 1) := by decide +kernel
theorem dJ7_copyOfRange_39247_1 : decode cJ7_copyOfRange_39247 1 = .ok (.ifCond .ne 9, 3) := by decide +kernel
theorem dJ7_copyOfRange_39247_4 : decode cJ7_copyOfRange_39247 4 = .ok (.iload_n 2, 1) := by decide +kernel
theorem dJ7_copyOfRange_39247_5 : decode cJ7_copyOfRange_39247 5 = .ok (.aload_n 0, 1) := by decide +kernel
theorem dJ7_copyOfRange_39247_6 : decode cJ7_copyOfRange_39247 6 = .ok (.arraylength, 1) := by decide +kernel
theorem dJ7_copyOfRange_39247_7 : decode cJ7_copyOfRange_39247 7 = .ok (.if_icmp .eq 10, 3) := by decide +kernel
theorem dJ7_copyOfRange_39247_10 : decode cJ7_copyOfRange_39247 10 = .ok (.aload_n 0, 1) := by decide +kernel
theorem dJ7_copyOfRange_39247_11 : decode cJ7_copyOfRange_39247 11 = .ok (.iload_n 1, 1) := by decide +kernel
theorem dJ7_copyOfRange_39247_12 : decode cJ7_copyOfRange_39247 12 = .ok (.iload_n 2, 1) := by decide +kernel
theorem dJ7_copyOfRange_39247_13 : decode cJ7_copyOfRange_39247 13 = .ok (.invokestatic 339, 3) := by decide +kernel
theorem dJ7_copyOfRange_39247_16 : decode cJ7_copyOfRange_39247 16 = .ok (.areturn, 1) := by decide +kernel
theorem dJ7_copyOfRange_39247_17 : decode cJ7_copyOfRange_39247 17 = .ok (.aload_n 0, 1) := by decide +kernel
theorem dJ7_copyOfRange_39247_18 : decode cJ7_copyOfRange_39247 18 = .ok (.invokevirtual 310, 3) := by decide +kernel
theorem dJ7_copyOfRange_39247_21 : decode cJ7_copyOfRange_39247 21 = .ok (.checkcast 311, 3) := by decide +kernel
theorem dJ7_copyOfRange_39247_24 : decode cJ7_copyOfRange_39247 24 = .ok (.areturn, 1) := by decide +kernel
theorem dJ7_copyOfRangeByte_39247_0 : decode cJ7_copyOfRangeByte_39247 0 = .ok (.iload_n 1, 1) := by decide +kernel
theorem dJ7_copyOfRangeByte_39247_1 : decode cJ7_copyOfRangeByte_39247 1 = .ok (.iload_n 2, 1) := by decide +kernel
theorem dJ7_copyOfRangeByte_39247_2 : decode cJ7_copyOfRangeByte_39247 2 = .ok (.invokestatic 343, 3) := by decide +kernel
theorem dJ7_copyOfRangeByte_39247_5 : decode cJ7_copyOfRangeByte_39247 5 = .ok (.iload_n 2, 1) := by decide +kernel
theorem dJ7_copyOfRangeByte_39247_6 : decode cJ7_copyOfRangeByte_39247 6 = .ok (.iload_n 1, 1) := by decide +kernel
theorem dJ7_copyOfRangeByte_39247_7 : decode cJ7_copyOfRangeByte_39247 7 = .ok (.isub, 1) := by decide +kernel
theorem dJ7_copyOfRangeByte_39247_8 : decode cJ7_copyOfRangeByte_39247 8 = .ok (.istore_n 3, 1) := by decide +kernel
theorem dJ7_copyOfRangeByte_39247_9 : decode cJ7_copyOfRangeByte_39247 9 = .ok (.iload_n 3, 1) := by decide +kernel
theorem dJ7_copyOfRangeByte_39247_10 : decode cJ7_copyOfRangeByte_39247 10 = .ok (.newarray .byte, 2) := by decide +kernel
theorem dJ7_copyOfRangeByte_39247_12 : decode cJ7_copyOfRangeByte_39247 12 = .ok (.astore 4, 2) := by decide +kernel
theorem dJ7_copyOfRangeByte_39247_14 : decode cJ7_copyOfRangeByte_39247 14 = .ok (.aload_n 0, 1) := by decide +kernel
theorem dJ7_copyOfRangeByte_39247_15 : decode cJ7_copyOfRangeByte_39247 15 = .ok (.iload_n 1, 1) := by decide +kernel
theorem dJ7_copyOfRangeByte_39247_16 : decode cJ7_copyOfRangeByte_39247 16 = .ok (.aload 4, 2) := by decide +kernel
theorem dJ7_copyOfRangeByte_39247_18 : decode cJ7_copyOfRangeByte_39247 18 = .ok (.iconst 0, 1) := by decide +kernel
theorem dJ7_copyOfRangeByte_39247_19 : decode cJ7_copyOfRangeByte_39247 19 = .ok (.aload_n 0, 1) := by decide +kernel
theorem dJ7_copyOfRangeByte_39247_20 : decode cJ7_copyOfRangeByte_39247 20 = .ok (.arraylength, 1) := by decide +kernel
theorem dJ7_copyOfRangeByte_39247_21 : decode cJ7_copyOfRangeByte_39247 21 = .ok (.iload_n 1, 1) := by decide +kernel
theorem dJ7_copyOfRangeByte_39247_22 : decode cJ7_copyOfRangeByte_39247 22 = .ok (.isub, 1) := by decide +kernel
theorem dJ7_copyOfRangeByte_39247_23 : decode cJ7_copyOfRangeByte_39247 23 = .ok (.iload_n 3, 1) := by decide +kernel
theorem dJ7_copyOfRangeByte_39247_24 : decode cJ7_copyOfRangeByte_39247 24 = .ok (.invokestatic 304, 3) := by decide +kernel
theorem dJ7_copyOfRangeByte_39247_27 : decode cJ7_copyOfRangeByte_39247 27 = .ok (.invokestatic 150, 3) := by decide +kernel
theorem dJ7_copyOfRangeByte_39247_30 : decode cJ7_copyOfRangeByte_39247 30 = .ok (.aload 4, 2) := by decide +kernel
theorem dJ7_copyOfRangeByte_39247_32 : decode cJ7_copyOfRangeByte_39247 32 = .ok (.areturn, 1) := by decide +kernel
theorem dJ15_checkIndex_7cf53_0 : decode cJ15_checkIndex_7cf53 0 = .ok (.iload_n 0, 1) := by decide +kernel
theorem dJ15_checkIndex_7cf53_1 : decode cJ15_checkIndex_7cf53 1 = .ok (.iload_n 1, 1) := by decide +kernel
theorem dJ15_checkIndex_7cf53_2 : decode cJ15_checkIndex_7cf53 2 = .ok (.aconst_null, 1) := by decide +kernel
theorem dJ15_checkIndex_7cf53_3 : decode cJ15_checkIndex_7cf53 3 = .ok (.invokestatic 105, 3) := by decide +kernel
theorem dJ15_checkIndex_7cf53_6 : decode cJ15_checkIndex_7cf53 6 = .ok (.ireturn, 1) := by decide +kernel
theorem dJ8_newLength_cabcc_0 : decode cJ8_newLength_cabcc 0 = .ok (.iload_n 0, 1) := by decide +kernel
theorem dJ8_newLength_cabcc_1 : decode cJ8_newLength_cabcc 1 = .ok (.iload_n 1, 1) := by decide +kernel
theorem dJ8_newLength_cabcc_2 : decode cJ8_newLength_cabcc 2 = .ok (.iload_n 2, 1) := by decide +kernel
theorem dJ8_newLength_cabcc_3 : decode cJ8_newLength_cabcc 3 = .ok (.invokestatic 194, 3) := by decide +kernel
theorem dJ8_newLength_cabcc_6 : decode cJ8_newLength_cabcc 6 = .ok (.iadd, 1) := by decide +kernel
theorem dJ8_newLength_cabcc_7 : decode cJ8_newLength_cabcc 7 = .ok (.istore_n 3, 1) := by decide +kernel
theorem dJ8_newLength_cabcc_8 : decode cJ8_newLength_cabcc 8 = .ok (.iconst 0, 1) := by decide +kernel
theorem dJ8_newLength_cabcc_9 : decode cJ8_newLength_cabcc 9 = .ok (.iload_n 3, 1) := by decide +kernel
theorem dJ8_newLength_cabcc_10 : decode cJ8_newLength_cabcc 10 = .ok (.if_icmp .ge 11, 3) := by decide +kernel
theorem dJ8_newLength_cabcc_13 : decode cJ8_newLength_cabcc 13 = .ok (.iload_n 3, 1) := by decide +kernel
theorem dJ8_newLength_cabcc_14 : decode cJ8_newLength_cabcc 14 = .ok (.ldc 200, 2) := by decide +kernel
theorem dJ8_newLength_cabcc_16 : decode cJ8_newLength_cabcc 16 = .ok (.if_icmp .gt 5, 3) := by decide +kernel
theorem dJ8_newLength_cabcc_19 : decode cJ8_newLength_cabcc 19 = .ok (.iload_n 3, 1) := by decide +kernel
theorem dJ8_newLength_cabcc_20 : decode cJ8_newLength_cabcc 20 = .ok (.ireturn, 1) := by decide +kernel
theorem dJ8_newLength_cabcc_21 : decode cJ8_newLength_cabcc 21 = .ok (.iload_n 0, 1) := by decide +kernel
theorem dJ8_newLength_cabcc_22 : decode cJ8_newLength_cabcc 22 = .ok (.iload_n 1, 1) := by decide +kernel
theorem dJ8_newLength_cabcc_23 : decode cJ8_newLength_cabcc 23 = .ok (.invokestatic 201, 3) := by decide +kernel
theorem dJ8_newLength_cabcc_26 : decode cJ8_newLength_cabcc 26 = .ok (.ireturn, 1) := by decide +kernel
theorem dJ3_checkIndex_8e157_0 : decode cJ3_checkIndex_8e157 0 = .ok (.iload_n 0, 1) := by decide +kernel
theorem dJ3_checkIndex_8e157_1 : decode cJ3_checkIndex_8e157 1 = .ok (.ifCond .lt 8, 3) := by decide +kernel
theorem dJ3_checkIndex_8e157_4 : decode cJ3_checkIndex_8e157 4 = .ok (.iload_n 0, 1) := by decide +kernel
theorem dJ3_checkIndex_8e157_5 : decode cJ3_checkIndex_8e157 5 = .ok (.iload_n 1, 1) := by decide +kernel
theorem dJ3_checkIndex_8e157_6 : decode cJ3_checkIndex_8e157 6 = .ok (.if_icmp .lt 10, 3) := by decide +kernel
theorem dJ3_checkIndex_8e157_9 : decode cJ3_checkIndex_8e157 9 = .ok (.aload_n 2, 1) := by decide +kernel
theorem dJ3_checkIndex_8e157_10 : decode cJ3_checkIndex_8e157 10 = .ok (.iload_n 0, 1) := by decide +kernel
theorem dJ3_checkIndex_8e157_11 : decode cJ3_checkIndex_8e157 11 = .ok (.iload_n 1, 1) := by decide +kernel
theorem dJ3_checkIndex_8e157_12 : decode cJ3_checkIndex_8e157 12 = .ok (.invokestatic 95, 3) := by decide +kernel
theorem dJ3_checkIndex_8e157_15 : decode cJ3_checkIndex_8e157 15 = .ok (.athrow, 1) := by decide +kernel
theorem dJ3_checkIndex_8e157_16 : decode cJ3_checkIndex_8e157 16 = .ok (.iload_n 0, 1) := by decide +kernel
theorem dJ3_checkIndex_8e157_17 : decode cJ3_checkIndex_8e157 17 = .ok (.ireturn, 1) := by decide +kernel
