theorem dX0_init_0 : decode cX0_init 0 = .ok (.aload_n 0, 1) := by decide +kernel
theorem dX0_init_1 : decode cX0_init 1 = .ok (.invokespecial 3, 3) := by decide +kernel
theorem dX0_init_4 : decode cX0_init 4 = .ok (.aload_n 0, 1) := by decide +kernel
theorem dX0_init_5 : decode cX0_init 5 = .ok (.new 9, 3) := by decide +kernel
theorem dX0_init_8 : decode cX0_init 8 = .ok (.dup, 1) := by decide +kernel
theorem dX0_init_9 : decode cX0_init 9 = .ok (.invokespecial 11, 3) := by decide +kernel
theorem dX0_init_12 : decode cX0_init 12 = .ok (.putfield 12, 3) := by decide +kernel
theorem dX0_init_15 : decode cX0_init 15 = .ok (.return_, 1) := by decide +kernel
theorem dX0_placeOf_0 : decode cX0_placeOf 0 = .ok (.iconst 0, 1) := by decide +kernel
theorem dX0_placeOf_1 : decode cX0_placeOf 1 = .ok (.istore_n 2, 1) := by decide +kernel
theorem dX0_placeOf_2 : decode cX0_placeOf 2 = .ok (.iload_n 2, 1) := by decide +kernel
theorem dX0_placeOf_3 : decode cX0_placeOf 3 = .ok (.aload_n 0, 1) := by decide +kernel
theorem dX0_placeOf_4 : decode cX0_placeOf 4 = .ok (.getfield 12, 3) := by decide +kernel
theorem dX0_placeOf_7 : decode cX0_placeOf 7 = .ok (.invokevirtual 18, 3) := by decide +kernel
theorem dX0_placeOf_10 : decode cX0_placeOf 10 = .ok (.if_icmp .ge 23, 3) := by decide +kernel
theorem dX0_placeOf_13 : decode cX0_placeOf 13 = .ok (.aload_n 0, 1) := by decide +kernel
theorem dX0_placeOf_14 : decode cX0_placeOf 14 = .ok (.getfield 12, 3) := by decide +kernel
theorem dX0_placeOf_17 : decode cX0_placeOf 17 = .ok (.iload_n 2, 1) := by decide +kernel
theorem dX0_placeOf_18 : decode cX0_placeOf 18 = .ok (.invokevirtual 22, 3) := by decide +kernel
theorem dX0_placeOf_21 : decode cX0_placeOf 21 = .ok (.aload_n 1, 1) := by decide +kernel
theorem dX0_placeOf_22 : decode cX0_placeOf 22 = .ok (.if_acmp .ne 5, 3) := by decide +kernel
theorem dX0_placeOf_25 : decode cX0_placeOf 25 = .ok (.iload_n 2, 1) := by decide +kernel
theorem dX0_placeOf_26 : decode cX0_placeOf 26 = .ok (.ireturn, 1) := by decide +kernel
theorem dX0_placeOf_27 : decode cX0_placeOf 27 = .ok (.iinc 2 1, 3) := by decide +kernel
theorem dX0_placeOf_30 : decode cX0_placeOf 30 = .ok (.goto (-28), 3) := by decide +kernel
theorem dX0_placeOf_33 : decode cX0_placeOf 33 = .ok (.iconst (-1), 1) := by decide +kernel
theorem dX0_placeOf_34 : decode cX0_placeOf 34 = .ok (.ireturn, 1) := by decide +kernel
theorem dX0_framesBefore_0 : decode cX0_framesBefore 0 = .ok (.iconst 0, 1) := by decide +kernel
theorem dX0_framesBefore_1 : decode cX0_framesBefore 1 = .ok (.istore_n 2, 1) := by decide +kernel
theorem dX0_framesBefore_2 : decode cX0_framesBefore 2 = .ok (.iconst 0, 1) := by decide +kernel
theorem dX0_framesBefore_3 : decode cX0_framesBefore 3 = .ok (.istore_n 3, 1) := by decide +kernel
theorem dX0_framesBefore_4 : decode cX0_framesBefore 4 = .ok (.iload_n 3, 1) := by decide +kernel
theorem dX0_framesBefore_5 : decode cX0_framesBefore 5 = .ok (.iload_n 1, 1) := by decide +kernel
theorem dX0_framesBefore_6 : decode cX0_framesBefore 6 = .ok (.if_icmp .ge 37, 3) := by decide +kernel
theorem dX0_framesBefore_9 : decode cX0_framesBefore 9 = .ok (.iload_n 3, 1) := by decide +kernel
theorem dX0_framesBefore_10 : decode cX0_framesBefore 10 = .ok (.aload_n 0, 1) := by decide +kernel
theorem dX0_framesBefore_11 : decode cX0_framesBefore 11 = .ok (.getfield 12, 3) := by decide +kernel
theorem dX0_framesBefore_14 : decode cX0_framesBefore 14 = .ok (.invokevirtual 18, 3) := by decide +kernel
theorem dX0_framesBefore_17 : decode cX0_framesBefore 17 = .ok (.if_icmp .ge 26, 3) := by decide +kernel
theorem dX0_framesBefore_20 : decode cX0_framesBefore 20 = .ok (.iload_n 2, 1) := by decide +kernel
theorem dX0_framesBefore_21 : decode cX0_framesBefore 21 = .ok (.aload_n 0, 1) := by decide +kernel
theorem dX0_framesBefore_22 : decode cX0_framesBefore 22 = .ok (.getfield 12, 3) := by decide +kernel
theorem dX0_framesBefore_25 : decode cX0_framesBefore 25 = .ok (.iload_n 3, 1) := by decide +kernel
theorem dX0_framesBefore_26 : decode cX0_framesBefore 26 = .ok (.invokevirtual 22, 3) := by decide +kernel
theorem dX0_framesBefore_29 : decode cX0_framesBefore 29 = .ok (.checkcast 26, 3) := by decide +kernel
theorem dX0_framesBefore_32 : decode cX0_framesBefore 32 = .ok (.invokevirtual 28, 3) := by decide +kernel
theorem dX0_framesBefore_35 : decode cX0_framesBefore 35 = .ok (.iadd, 1) := by decide +kernel
theorem dX0_framesBefore_36 : decode cX0_framesBefore 36 = .ok (.istore_n 2, 1) := by decide +kernel
theorem dX0_framesBefore_37 : decode cX0_framesBefore 37 = .ok (.iinc 3 1, 3) := by decide +kernel
theorem dX0_framesBefore_40 : decode cX0_framesBefore 40 = .ok (.goto (-36), 3) := by decide +kernel
theorem dX0_framesBefore_43 : decode cX0_framesBefore 43 = .ok (.iload_n 2, 1) := by decide +kernel
theorem dX0_framesBefore_44 : decode cX0_framesBefore 44 = .ok (.ireturn, 1) := by decide +kernel
theorem dX0_frameCount_0 : decode cX0_frameCount 0 = .ok (.aload_n 0, 1) := by decide +kernel
theorem dX0_frameCount_1 : decode cX0_frameCount 1 = .ok (.aload_n 0, 1) := by decide +kernel
theorem dX0_frameCount_2 : decode cX0_frameCount 2 = .ok (.getfield 12, 3) := by decide +kernel
theorem dX0_frameCount_5 : decode cX0_frameCount 5 = .ok (.invokevirtual 18, 3) := by decide +kernel
theorem dX0_frameCount_8 : decode cX0_frameCount 8 = .ok (.invokevirtual 31, 3) := by decide +kernel
theorem dX0_frameCount_11 : decode cX0_frameCount 11 = .ok (.ireturn, 1) := by decide +kernel
theorem dX0_dropGradesFrom_0 : decode cX0_dropGradesFrom 0 = .ok (.iconst 0, 1) := by decide +kernel
theorem dX0_dropGradesFrom_1 : decode cX0_dropGradesFrom 1 = .ok (.istore_n 2, 1) := by decide +kernel
theorem dX0_dropGradesFrom_2 : decode cX0_dropGradesFrom 2 = .ok (.iload_n 2, 1) := by decide +kernel
theorem dX0_dropGradesFrom_3 : decode cX0_dropGradesFrom 3 = .ok (.aload_n 0, 1) := by decide +kernel
theorem dX0_dropGradesFrom_4 : decode cX0_dropGradesFrom 4 = .ok (.getfield 12, 3) := by decide +kernel
theorem dX0_dropGradesFrom_7 : decode cX0_dropGradesFrom 7 = .ok (.invokevirtual 18, 3) := by decide +kernel
theorem dX0_dropGradesFrom_10 : decode cX0_dropGradesFrom 10 = .ok (.if_icmp .ge 34, 3) := by decide +kernel
theorem dX0_dropGradesFrom_13 : decode cX0_dropGradesFrom 13 = .ok (.aload_n 0, 1) := by decide +kernel
theorem dX0_dropGradesFrom_14 : decode cX0_dropGradesFrom 14 = .ok (.getfield 12, 3) := by decide +kernel
theorem dX0_dropGradesFrom_17 : decode cX0_dropGradesFrom 17 = .ok (.iload_n 2, 1) := by decide +kernel
theorem dX0_dropGradesFrom_18 : decode cX0_dropGradesFrom 18 = .ok (.invokevirtual 22, 3) := by decide +kernel
theorem dX0_dropGradesFrom_21 : decode cX0_dropGradesFrom 21 = .ok (.checkcast 26, 3) := by decide +kernel
theorem dX0_dropGradesFrom_24 : decode cX0_dropGradesFrom 24 = .ok (.astore_n 3, 1) := by decide +kernel
theorem dX0_dropGradesFrom_25 : decode cX0_dropGradesFrom 25 = .ok (.aload_n 3, 1) := by decide +kernel
theorem dX0_dropGradesFrom_26 : decode cX0_dropGradesFrom 26 = .ok (.getfield 35, 3) := by decide +kernel
theorem dX0_dropGradesFrom_29 : decode cX0_dropGradesFrom 29 = .ok (.aload_n 1, 1) := by decide +kernel
theorem dX0_dropGradesFrom_30 : decode cX0_dropGradesFrom 30 = .ok (.if_acmp .ne 8, 3) := by decide +kernel
theorem dX0_dropGradesFrom_33 : decode cX0_dropGradesFrom 33 = .ok (.aload_n 3, 1) := by decide +kernel
theorem dX0_dropGradesFrom_34 : decode cX0_dropGradesFrom 34 = .ok (.aconst_null, 1) := by decide +kernel
theorem dX0_dropGradesFrom_35 : decode cX0_dropGradesFrom 35 = .ok (.putfield 35, 3) := by decide +kernel
theorem dX0_dropGradesFrom_38 : decode cX0_dropGradesFrom 38 = .ok (.iinc 2 1, 3) := by decide +kernel
theorem dX0_dropGradesFrom_41 : decode cX0_dropGradesFrom 41 = .ok (.goto (-39), 3) := by decide +kernel
theorem dX0_dropGradesFrom_44 : decode cX0_dropGradesFrom 44 = .ok (.return_, 1) := by decide +kernel
theorem dX1_init_0 : decode cX1_init 0 = .ok (.aload_n 0, 1) := by decide +kernel
theorem dX1_init_1 : decode cX1_init 1 = .ok (.invokespecial 1, 3) := by decide +kernel
theorem dX1_init_4 : decode cX1_init 4 = .ok (.aload_n 0, 1) := by decide +kernel
theorem dX1_init_5 : decode cX1_init 5 = .ok (.aload_n 1, 1) := by decide +kernel
theorem dX1_init_6 : decode cX1_init 6 = .ok (.putfield 7, 3) := by decide +kernel
theorem dX1_init_9 : decode cX1_init 9 = .ok (.aload_n 0, 1) := by decide +kernel
theorem dX1_init_10 : decode cX1_init 10 = .ok (.iload_n 2, 1) := by decide +kernel
theorem dX1_init_11 : decode cX1_init 11 = .ok (.putfield 13, 3) := by decide +kernel
theorem dX1_init_14 : decode cX1_init 14 = .ok (.aload_n 0, 1) := by decide +kernel
theorem dX1_init_15 : decode cX1_init 15 = .ok (.iload_n 3, 1) := by decide +kernel
theorem dX1_init_16 : decode cX1_init 16 = .ok (.putfield 17, 3) := by decide +kernel
theorem dX1_init_19 : decode cX1_init 19 = .ok (.aload_n 0, 1) := by decide +kernel
theorem dX1_init_20 : decode cX1_init 20 = .ok (.iload 4, 2) := by decide +kernel
theorem dX1_init_22 : decode cX1_init 22 = .ok (.putfield 20, 3) := by decide +kernel
theorem dX1_init_25 : decode cX1_init 25 = .ok (.return_, 1) := by decide +kernel
theorem dX2_init_0 : decode cX2_init 0 = .ok (.aload_n 0, 1) := by decide +kernel
theorem dX2_init_1 : decode cX2_init 1 = .ok (.invokespecial 1, 3) := by decide +kernel
theorem dX2_init_4 : decode cX2_init 4 = .ok (.aload_n 0, 1) := by decide +kernel
theorem dX2_init_5 : decode cX2_init 5 = .ok (.new 7, 3) := by decide +kernel
theorem dX2_init_8 : decode cX2_init 8 = .ok (.dup, 1) := by decide +kernel
theorem dX2_init_9 : decode cX2_init 9 = .ok (.invokespecial 9, 3) := by decide +kernel
theorem dX2_init_12 : decode cX2_init 12 = .ok (.putfield 10, 3) := by decide +kernel
theorem dX2_init_15 : decode cX2_init 15 = .ok (.aload_n 0, 1) := by decide +kernel
theorem dX2_init_16 : decode cX2_init 16 = .ok (.aload_n 1, 1) := by decide +kernel
theorem dX2_init_17 : decode cX2_init 17 = .ok (.putfield 16, 3) := by decide +kernel
theorem dX2_init_20 : decode cX2_init 20 = .ok (.aload_n 0, 1) := by decide +kernel
theorem dX2_init_21 : decode cX2_init 21 = .ok (.iload_n 2, 1) := by decide +kernel
theorem dX2_init_22 : decode cX2_init 22 = .ok (.putfield 20, 3) := by decide +kernel
theorem dX2_init_25 : decode cX2_init 25 = .ok (.return_, 1) := by decide +kernel
theorem dX2_append_0 : decode cX2_append 0 = .ok (.aload_n 0, 1) := by decide +kernel
theorem dX2_append_1 : decode cX2_append 1 = .ok (.getfield 10, 3) := by decide +kernel
theorem dX2_append_4 : decode cX2_append 4 = .ok (.aload_n 1, 1) := by decide +kernel
theorem dX2_append_5 : decode cX2_append 5 = .ok (.invokevirtual 24, 3) := by decide +kernel
theorem dX2_append_8 : decode cX2_append 8 = .ok (.pop, 1) := by decide +kernel
theorem dX2_append_9 : decode cX2_append 9 = .ok (.aload_n 1, 1) := by decide +kernel
theorem dX2_append_10 : decode cX2_append 10 = .ok (.aload_n 0, 1) := by decide +kernel
theorem dX2_append_11 : decode cX2_append 11 = .ok (.putfield 28, 3) := by decide +kernel
theorem dX2_append_14 : decode cX2_append 14 = .ok (.return_, 1) := by decide +kernel
theorem dX2_spliceCount_0 : decode cX2_spliceCount 0 = .ok (.aload_n 0, 1) := by decide +kernel
theorem dX2_spliceCount_1 : decode cX2_spliceCount 1 = .ok (.getfield 10, 3) := by decide +kernel
theorem dX2_spliceCount_4 : decode cX2_spliceCount 4 = .ok (.invokevirtual 34, 3) := by decide +kernel
theorem dX2_spliceCount_7 : decode cX2_spliceCount 7 = .ok (.iconst 1, 1) := by decide +kernel
theorem dX2_spliceCount_8 : decode cX2_spliceCount 8 = .ok (.isub, 1) := by decide +kernel
theorem dX2_spliceCount_9 : decode cX2_spliceCount 9 = .ok (.iconst 0, 1) := by decide +kernel
theorem dX2_spliceCount_10 : decode cX2_spliceCount 10 = .ok (.invokestatic 38, 3) := by decide +kernel
theorem dX2_spliceCount_13 : decode cX2_spliceCount 13 = .ok (.ireturn, 1) := by decide +kernel
theorem dX2_frameCount_0 : decode cX2_frameCount 0 = .ok (.iconst 0, 1) := by decide +kernel
theorem dX2_frameCount_1 : decode cX2_frameCount 1 = .ok (.istore_n 1, 1) := by decide +kernel
theorem dX2_frameCount_2 : decode cX2_frameCount 2 = .ok (.iconst 0, 1) := by decide +kernel
theorem dX2_frameCount_3 : decode cX2_frameCount 3 = .ok (.istore_n 2, 1) := by decide +kernel
theorem dX2_frameCount_4 : decode cX2_frameCount 4 = .ok (.iload_n 2, 1) := by decide +kernel
theorem dX2_frameCount_5 : decode cX2_frameCount 5 = .ok (.aload_n 0, 1) := by decide +kernel
theorem dX2_frameCount_6 : decode cX2_frameCount 6 = .ok (.getfield 10, 3) := by decide +kernel
theorem dX2_frameCount_9 : decode cX2_frameCount 9 = .ok (.invokevirtual 34, 3) := by decide +kernel
theorem dX2_frameCount_12 : decode cX2_frameCount 12 = .ok (.if_icmp .ge 26, 3) := by decide +kernel
theorem dX2_frameCount_15 : decode cX2_frameCount 15 = .ok (.iload_n 1, 1) := by decide +kernel
theorem dX2_frameCount_16 : decode cX2_frameCount 16 = .ok (.aload_n 0, 1) := by decide +kernel
theorem dX2_frameCount_17 : decode cX2_frameCount 17 = .ok (.getfield 10, 3) := by decide +kernel
theorem dX2_frameCount_20 : decode cX2_frameCount 20 = .ok (.iload_n 2, 1) := by decide +kernel
theorem dX2_frameCount_21 : decode cX2_frameCount 21 = .ok (.invokevirtual 44, 3) := by decide +kernel
theorem dX2_frameCount_24 : decode cX2_frameCount 24 = .ok (.checkcast 29, 3) := by decide +kernel
theorem dX2_frameCount_27 : decode cX2_frameCount 27 = .ok (.getfield 48, 3) := by decide +kernel
theorem dX2_frameCount_30 : decode cX2_frameCount 30 = .ok (.iadd, 1) := by decide +kernel
theorem dX2_frameCount_31 : decode cX2_frameCount 31 = .ok (.istore_n 1, 1) := by decide +kernel
theorem dX2_frameCount_32 : decode cX2_frameCount 32 = .ok (.iinc 2 1, 3) := by decide +kernel
theorem dX2_frameCount_35 : decode cX2_frameCount 35 = .ok (.goto (-31), 3) := by decide +kernel
theorem dX2_frameCount_38 : decode cX2_frameCount 38 = .ok (.iload_n 1, 1) := by decide +kernel
theorem dX2_frameCount_39 : decode cX2_frameCount 39 = .ok (.ireturn, 1) := by decide +kernel
theorem dX2_canTake_0 : decode cX2_canTake 0 = .ok (.iconst 0, 1) := by decide +kernel
theorem dX2_canTake_1 : decode cX2_canTake 1 = .ok (.istore_n 3, 1) := by decide +kernel
theorem dX2_canTake_2 : decode cX2_canTake 2 = .ok (.iload_n 3, 1) := by decide +kernel
theorem dX2_canTake_3 : decode cX2_canTake 3 = .ok (.aload_n 0, 1) := by decide +kernel
theorem dX2_canTake_4 : decode cX2_canTake 4 = .ok (.getfield 10, 3) := by decide +kernel
theorem dX2_canTake_7 : decode cX2_canTake 7 = .ok (.invokevirtual 34, 3) := by decide +kernel
theorem dX2_canTake_10 : decode cX2_canTake 10 = .ok (.iconst 1, 1) := by decide +kernel
theorem dX2_canTake_11 : decode cX2_canTake 11 = .ok (.isub, 1) := by decide +kernel
theorem dX2_canTake_12 : decode cX2_canTake 12 = .ok (.if_icmp .ge 31, 3) := by decide +kernel
theorem dX2_canTake_15 : decode cX2_canTake 15 = .ok (.aload_n 0, 1) := by decide +kernel
theorem dX2_canTake_16 : decode cX2_canTake 16 = .ok (.getfield 10, 3) := by decide +kernel
theorem dX2_canTake_19 : decode cX2_canTake 19 = .ok (.iload_n 3, 1) := by decide +kernel
theorem dX2_canTake_20 : decode cX2_canTake 20 = .ok (.invokevirtual 44, 3) := by decide +kernel
theorem dX2_canTake_23 : decode cX2_canTake 23 = .ok (.checkcast 29, 3) := by decide +kernel
theorem dX2_canTake_26 : decode cX2_canTake 26 = .ok (.getfield 51, 3) := by decide +kernel
theorem dX2_canTake_29 : decode cX2_canTake 29 = .ok (.iload_n 1, 1) := by decide +kernel
theorem dX2_canTake_30 : decode cX2_canTake 30 = .ok (.iadd, 1) := by decide +kernel
theorem dX2_canTake_31 : decode cX2_canTake 31 = .ok (.iload_n 2, 1) := by decide +kernel
theorem dX2_canTake_32 : decode cX2_canTake 32 = .ok (.if_icmp .le 5, 3) := by decide +kernel
theorem dX2_canTake_35 : decode cX2_canTake 35 = .ok (.iconst 0, 1) := by decide +kernel
theorem dX2_canTake_36 : decode cX2_canTake 36 = .ok (.ireturn, 1) := by decide +kernel
theorem dX2_canTake_37 : decode cX2_canTake 37 = .ok (.iinc 3 1, 3) := by decide +kernel
theorem dX2_canTake_40 : decode cX2_canTake 40 = .ok (.goto (-38), 3) := by decide +kernel
theorem dX2_canTake_43 : decode cX2_canTake 43 = .ok (.iconst 1, 1) := by decide +kernel
theorem dX2_canTake_44 : decode cX2_canTake 44 = .ok (.ireturn, 1) := by decide +kernel
theorem dX2_addWear_0 : decode cX2_addWear 0 = .ok (.iconst 0, 1) := by decide +kernel
theorem dX2_addWear_1 : decode cX2_addWear 1 = .ok (.istore_n 2, 1) := by decide +kernel
theorem dX2_addWear_2 : decode cX2_addWear 2 = .ok (.iload_n 2, 1) := by decide +kernel
theorem dX2_addWear_3 : decode cX2_addWear 3 = .ok (.aload_n 0, 1) := by decide +kernel
theorem dX2_addWear_4 : decode cX2_addWear 4 = .ok (.getfield 10, 3) := by decide +kernel
theorem dX2_addWear_7 : decode cX2_addWear 7 = .ok (.invokevirtual 34, 3) := by decide +kernel
theorem dX2_addWear_10 : decode cX2_addWear 10 = .ok (.iconst 1, 1) := by decide +kernel
theorem dX2_addWear_11 : decode cX2_addWear 11 = .ok (.isub, 1) := by decide +kernel
theorem dX2_addWear_12 : decode cX2_addWear 12 = .ok (.if_icmp .ge 29, 3) := by decide +kernel
theorem dX2_addWear_15 : decode cX2_addWear 15 = .ok (.aload_n 0, 1) := by decide +kernel
theorem dX2_addWear_16 : decode cX2_addWear 16 = .ok (.getfield 10, 3) := by decide +kernel
theorem dX2_addWear_19 : decode cX2_addWear 19 = .ok (.iload_n 2, 1) := by decide +kernel
theorem dX2_addWear_20 : decode cX2_addWear 20 = .ok (.invokevirtual 44, 3) := by decide +kernel
theorem dX2_addWear_23 : decode cX2_addWear 23 = .ok (.checkcast 29, 3) := by decide +kernel
theorem dX2_addWear_26 : decode cX2_addWear 26 = .ok (.dup, 1) := by decide +kernel
theorem dX2_addWear_27 : decode cX2_addWear 27 = .ok (.getfield 51, 3) := by decide +kernel
theorem dX2_addWear_30 : decode cX2_addWear 30 = .ok (.iload_n 1, 1) := by decide +kernel
theorem dX2_addWear_31 : decode cX2_addWear 31 = .ok (.iadd, 1) := by decide +kernel
theorem dX2_addWear_32 : decode cX2_addWear 32 = .ok (.putfield 51, 3) := by decide +kernel
theorem dX2_addWear_35 : decode cX2_addWear 35 = .ok (.iinc 2 1, 3) := by decide +kernel
theorem dX2_addWear_38 : decode cX2_addWear 38 = .ok (.goto (-36), 3) := by decide +kernel
theorem dX2_addWear_41 : decode cX2_addWear 41 = .ok (.return_, 1) := by decide +kernel
theorem dX2_greatestWear_0 : decode cX2_greatestWear 0 = .ok (.iconst 0, 1) := by decide +kernel
theorem dX2_greatestWear_1 : decode cX2_greatestWear 1 = .ok (.istore_n 1, 1) := by decide +kernel
theorem dX2_greatestWear_2 : decode cX2_greatestWear 2 = .ok (.iconst 0, 1) := by decide +kernel
theorem dX2_greatestWear_3 : decode cX2_greatestWear 3 = .ok (.istore_n 2, 1) := by decide +kernel
theorem dX2_greatestWear_4 : decode cX2_greatestWear 4 = .ok (.iload_n 2, 1) := by decide +kernel
theorem dX2_greatestWear_5 : decode cX2_greatestWear 5 = .ok (.aload_n 0, 1) := by decide +kernel
theorem dX2_greatestWear_6 : decode cX2_greatestWear 6 = .ok (.getfield 10, 3) := by decide +kernel
theorem dX2_greatestWear_9 : decode cX2_greatestWear 9 = .ok (.invokevirtual 34, 3) := by decide +kernel
theorem dX2_greatestWear_12 : decode cX2_greatestWear 12 = .ok (.iconst 1, 1) := by decide +kernel
theorem dX2_greatestWear_13 : decode cX2_greatestWear 13 = .ok (.isub, 1) := by decide +kernel
theorem dX2_greatestWear_14 : decode cX2_greatestWear 14 = .ok (.if_icmp .ge 28, 3) := by decide +kernel
theorem dX2_greatestWear_17 : decode cX2_greatestWear 17 = .ok (.iload_n 1, 1) := by decide +kernel
theorem dX2_greatestWear_18 : decode cX2_greatestWear 18 = .ok (.aload_n 0, 1) := by decide +kernel
theorem dX2_greatestWear_19 : decode cX2_greatestWear 19 = .ok (.getfield 10, 3) := by decide +kernel
theorem dX2_greatestWear_22 : decode cX2_greatestWear 22 = .ok (.iload_n 2, 1) := by decide +kernel
theorem dX2_greatestWear_23 : decode cX2_greatestWear 23 = .ok (.invokevirtual 44, 3) := by decide +kernel
theorem dX2_greatestWear_26 : decode cX2_greatestWear 26 = .ok (.checkcast 29, 3) := by decide +kernel
theorem dX2_greatestWear_29 : decode cX2_greatestWear 29 = .ok (.getfield 51, 3) := by decide +kernel
theorem dX2_greatestWear_32 : decode cX2_greatestWear 32 = .ok (.invokestatic 38, 3) := by decide +kernel
theorem dX2_greatestWear_35 : decode cX2_greatestWear 35 = .ok (.istore_n 1, 1) := by decide +kernel
theorem dX2_greatestWear_36 : decode cX2_greatestWear 36 = .ok (.iinc 2 1, 3) := by decide +kernel
theorem dX2_greatestWear_39 : decode cX2_greatestWear 39 = .ok (.goto (-35), 3) := by decide +kernel
theorem dX2_greatestWear_42 : decode cX2_greatestWear 42 = .ok (.iload_n 1, 1) := by decide +kernel
theorem dX2_greatestWear_43 : decode cX2_greatestWear 43 = .ok (.ireturn, 1) := by decide +kernel
theorem dX2_wearSum_0 : decode cX2_wearSum 0 = .ok (.iconst 0, 1) := by decide +kernel
theorem dX2_wearSum_1 : decode cX2_wearSum 1 = .ok (.istore_n 1, 1) := by decide +kernel
theorem dX2_wearSum_2 : decode cX2_wearSum 2 = .ok (.iconst 0, 1) := by decide +kernel
theorem dX2_wearSum_3 : decode cX2_wearSum 3 = .ok (.istore_n 2, 1) := by decide +kernel
theorem dX2_wearSum_4 : decode cX2_wearSum 4 = .ok (.iload_n 2, 1) := by decide +kernel
theorem dX2_wearSum_5 : decode cX2_wearSum 5 = .ok (.aload_n 0, 1) := by decide +kernel
theorem dX2_wearSum_6 : decode cX2_wearSum 6 = .ok (.getfield 10, 3) := by decide +kernel
theorem dX2_wearSum_9 : decode cX2_wearSum 9 = .ok (.invokevirtual 34, 3) := by decide +kernel
theorem dX2_wearSum_12 : decode cX2_wearSum 12 = .ok (.iconst 1, 1) := by decide +kernel
theorem dX2_wearSum_13 : decode cX2_wearSum 13 = .ok (.isub, 1) := by decide +kernel
theorem dX2_wearSum_14 : decode cX2_wearSum 14 = .ok (.if_icmp .ge 26, 3) := by decide +kernel
theorem dX2_wearSum_17 : decode cX2_wearSum 17 = .ok (.iload_n 1, 1) := by decide +kernel
theorem dX2_wearSum_18 : decode cX2_wearSum 18 = .ok (.aload_n 0, 1) := by decide +kernel
theorem dX2_wearSum_19 : decode cX2_wearSum 19 = .ok (.getfield 10, 3) := by decide +kernel
theorem dX2_wearSum_22 : decode cX2_wearSum 22 = .ok (.iload_n 2, 1) := by decide +kernel
theorem dX2_wearSum_23 : decode cX2_wearSum 23 = .ok (.invokevirtual 44, 3) := by decide +kernel
theorem dX2_wearSum_26 : decode cX2_wearSum 26 = .ok (.checkcast 29, 3) := by decide +kernel
theorem dX2_wearSum_29 : decode cX2_wearSum 29 = .ok (.getfield 51, 3) := by decide +kernel
theorem dX2_wearSum_32 : decode cX2_wearSum 32 = .ok (.iadd, 1) := by decide +kernel
theorem dX2_wearSum_33 : decode cX2_wearSum 33 = .ok (.istore_n 1, 1) := by decide +kernel
theorem dX2_wearSum_34 : decode cX2_wearSum 34 = .ok (.iinc 2 1, 3) := by decide +kernel
theorem dX2_wearSum_37 : decode cX2_wearSum 37 = .ok (.goto (-33), 3) := by decide +kernel
theorem dX2_wearSum_40 : decode cX2_wearSum 40 = .ok (.iload_n 1, 1) := by decide +kernel
theorem dX2_wearSum_41 : decode cX2_wearSum 41 = .ok (.ireturn, 1) := by decide +kernel
theorem dX3_init_0 : decode cX3_init 0 = .ok (.aload_n 0, 1) := by decide +kernel
theorem dX3_init_1 : decode cX3_init 1 = .ok (.invokespecial 3, 3) := by decide +kernel
theorem dX3_init_4 : decode cX3_init 4 = .ok (.aload_n 0, 1) := by decide +kernel
theorem dX3_init_5 : decode cX3_init 5 = .ok (.iconst (-1), 1) := by decide +kernel
theorem dX3_init_6 : decode cX3_init 6 = .ok (.putfield 9, 3) := by decide +kernel
theorem dX3_init_9 : decode cX3_init 9 = .ok (.aload_n 0, 1) := by decide +kernel
theorem dX3_init_10 : decode cX3_init 10 = .ok (.aload_n 1, 1) := by decide +kernel
theorem dX3_init_11 : decode cX3_init 11 = .ok (.putfield 15, 3) := by decide +kernel
theorem dX3_init_14 : decode cX3_init 14 = .ok (.aload_n 0, 1) := by decide +kernel
theorem dX3_init_15 : decode cX3_init 15 = .ok (.iload_n 2, 1) := by decide +kernel
theorem dX3_init_16 : decode cX3_init 16 = .ok (.putfield 19, 3) := by decide +kernel
theorem dX3_init_19 : decode cX3_init 19 = .ok (.aload_n 0, 1) := by decide +kernel
theorem dX3_init_20 : decode cX3_init 20 = .ok (.iload_n 3, 1) := by decide +kernel
theorem dX3_init_21 : decode cX3_init 21 = .ok (.putfield 22, 3) := by decide +kernel
theorem dX3_init_24 : decode cX3_init 24 = .ok (.aload_n 0, 1) := by decide +kernel
theorem dX3_init_25 : decode cX3_init 25 = .ok (.iload 4, 2) := by decide +kernel
theorem dX3_init_27 : decode cX3_init 27 = .ok (.putfield 25, 3) := by decide +kernel
theorem dX3_init_30 : decode cX3_init 30 = .ok (.return_, 1) := by decide +kernel
theorem dX3_isMissing_0 : decode cX3_isMissing 0 = .ok (.aload_n 0, 1) := by decide +kernel
theorem dX3_isMissing_1 : decode cX3_isMissing 1 = .ok (.getfield 28, 3) := by decide +kernel
theorem dX3_isMissing_4 : decode cX3_isMissing 4 = .ok (.ifnonnull 7, 3) := by decide +kernel
theorem dX3_isMissing_7 : decode cX3_isMissing 7 = .ok (.iconst 1, 1) := by decide +kernel
theorem dX3_isMissing_8 : decode cX3_isMissing 8 = .ok (.goto 4, 3) := by decide +kernel
theorem dX3_isMissing_11 : decode cX3_isMissing 11 = .ok (.iconst 0, 1) := by decide +kernel
theorem dX3_isMissing_12 : decode cX3_isMissing 12 = .ok (.ireturn, 1) := by decide +kernel
theorem dX3_keptFrames_0 : decode cX3_keptFrames 0 = .ok (.aload_n 0, 1) := by decide +kernel
theorem dX3_keptFrames_1 : decode cX3_keptFrames 1 = .ok (.getfield 28, 3) := by decide +kernel
theorem dX3_keptFrames_4 : decode cX3_keptFrames 4 = .ok (.ifnonnull 7, 3) := by decide +kernel
theorem dX3_keptFrames_7 : decode cX3_keptFrames 7 = .ok (.iconst 0, 1) := by decide +kernel
theorem dX3_keptFrames_8 : decode cX3_keptFrames 8 = .ok (.goto 7, 3) := by decide +kernel
theorem dX3_keptFrames_11 : decode cX3_keptFrames 11 = .ok (.aload_n 0, 1) := by decide +kernel
theorem dX3_keptFrames_12 : decode cX3_keptFrames 12 = .ok (.getfield 22, 3) := by decide +kernel
theorem dX3_keptFrames_15 : decode cX3_keptFrames 15 = .ok (.ireturn, 1) := by decide +kernel
theorem dX3_takeScan_0 : decode cX3_takeScan 0 = .ok (.iload_n 1, 1) := by decide +kernel
theorem dX3_takeScan_1 : decode cX3_takeScan 1 = .ok (.aload_n 0, 1) := by decide +kernel
theorem dX3_takeScan_2 : decode cX3_takeScan 2 = .ok (.getfield 32, 3) := by decide +kernel
theorem dX3_takeScan_5 : decode cX3_takeScan 5 = .ok (.if_icmp .lt 13, 3) := by decide +kernel
theorem dX3_takeScan_8 : decode cX3_takeScan 8 = .ok (.aload_n 0, 1) := by decide +kernel
theorem dX3_takeScan_9 : decode cX3_takeScan 9 = .ok (.iload_n 1, 1) := by decide +kernel
theorem dX3_takeScan_10 : decode cX3_takeScan 10 = .ok (.putfield 32, 3) := by decide +kernel
theorem dX3_takeScan_13 : decode cX3_takeScan 13 = .ok (.aload_n 0, 1) := by decide +kernel
theorem dX3_takeScan_14 : decode cX3_takeScan 14 = .ok (.iload_n 2, 1) := by decide +kernel
theorem dX3_takeScan_15 : decode cX3_takeScan 15 = .ok (.putfield 35, 3) := by decide +kernel
theorem dX3_takeScan_18 : decode cX3_takeScan 18 = .ok (.return_, 1) := by decide +kernel
theorem dX3_currentGrade_0 : decode cX3_currentGrade 0 = .ok (.aload_n 0, 1) := by decide +kernel
theorem dX3_currentGrade_1 : decode cX3_currentGrade 1 = .ok (.getfield 9, 3) := by decide +kernel
theorem dX3_currentGrade_4 : decode cX3_currentGrade 4 = .ok (.iconst (-1), 1) := by decide +kernel
theorem dX3_currentGrade_5 : decode cX3_currentGrade 5 = .ok (.if_icmp .eq 8, 3) := by decide +kernel
theorem dX3_currentGrade_8 : decode cX3_currentGrade 8 = .ok (.aload_n 0, 1) := by decide +kernel
theorem dX3_currentGrade_9 : decode cX3_currentGrade 9 = .ok (.getfield 9, 3) := by decide +kernel
theorem dX3_currentGrade_12 : decode cX3_currentGrade 12 = .ok (.ireturn, 1) := by decide +kernel
theorem dX3_currentGrade_13 : decode cX3_currentGrade 13 = .ok (.aload_n 0, 1) := by decide +kernel
theorem dX3_currentGrade_14 : decode cX3_currentGrade 14 = .ok (.getfield 38, 3) := by decide +kernel
theorem dX3_currentGrade_17 : decode cX3_currentGrade 17 = .ok (.ifnonnull 7, 3) := by decide +kernel
theorem dX3_currentGrade_20 : decode cX3_currentGrade 20 = .ok (.iconst (-1), 1) := by decide +kernel
theorem dX3_currentGrade_21 : decode cX3_currentGrade 21 = .ok (.goto 10, 3) := by decide +kernel
theorem dX3_currentGrade_24 : decode cX3_currentGrade 24 = .ok (.aload_n 0, 1) := by decide +kernel
theorem dX3_currentGrade_25 : decode cX3_currentGrade 25 = .ok (.getfield 38, 3) := by decide +kernel
theorem dX3_currentGrade_28 : decode cX3_currentGrade 28 = .ok (.getfield 9, 3) := by decide +kernel
theorem dX3_currentGrade_31 : decode cX3_currentGrade 31 = .ok (.ireturn, 1) := by decide +kernel
theorem dX3_canHavePassedTo_0 : decode cX3_canHavePassedTo 0 = .ok (.aload_n 0, 1) := by decide +kernel
theorem dX3_canHavePassedTo_1 : decode cX3_canHavePassedTo 1 = .ok (.getfield 9, 3) := by decide +kernel
theorem dX3_canHavePassedTo_4 : decode cX3_canHavePassedTo 4 = .ok (.iconst (-1), 1) := by decide +kernel
theorem dX3_canHavePassedTo_5 : decode cX3_canHavePassedTo 5 = .ok (.if_icmp .eq 40, 3) := by decide +kernel
theorem dX3_canHavePassedTo_8 : decode cX3_canHavePassedTo 8 = .ok (.aload_n 1, 1) := by decide +kernel
theorem dX3_canHavePassedTo_9 : decode cX3_canHavePassedTo 9 = .ok (.invokevirtual 42, 3) := by decide +kernel
theorem dX3_canHavePassedTo_12 : decode cX3_canHavePassedTo 12 = .ok (.aload_n 0, 1) := by decide +kernel
theorem dX3_canHavePassedTo_13 : decode cX3_canHavePassedTo 13 = .ok (.getfield 9, 3) := by decide +kernel
theorem dX3_canHavePassedTo_16 : decode cX3_canHavePassedTo 16 = .ok (.if_icmp .ne 29, 3) := by decide +kernel
theorem dX3_canHavePassedTo_19 : decode cX3_canHavePassedTo 19 = .ok (.aload_n 0, 1) := by decide +kernel
theorem dX3_canHavePassedTo_20 : decode cX3_canHavePassedTo 20 = .ok (.getfield 15, 3) := by decide +kernel
theorem dX3_canHavePassedTo_23 : decode cX3_canHavePassedTo 23 = .ok (.aload_n 1, 1) := by decide +kernel
theorem dX3_canHavePassedTo_24 : decode cX3_canHavePassedTo 24 = .ok (.getfield 15, 3) := by decide +kernel
theorem dX3_canHavePassedTo_27 : decode cX3_canHavePassedTo 27 = .ok (.if_acmp .ne 18, 3) := by decide +kernel
theorem dX3_canHavePassedTo_30 : decode cX3_canHavePassedTo 30 = .ok (.aload_n 0, 1) := by decide +kernel
theorem dX3_canHavePassedTo_31 : decode cX3_canHavePassedTo 31 = .ok (.getfield 25, 3) := by decide +kernel
theorem dX3_canHavePassedTo_34 : decode cX3_canHavePassedTo 34 = .ok (.aload_n 1, 1) := by decide +kernel
theorem dX3_canHavePassedTo_35 : decode cX3_canHavePassedTo 35 = .ok (.getfield 25, 3) := by decide +kernel
theorem dX3_canHavePassedTo_38 : decode cX3_canHavePassedTo 38 = .ok (.if_icmp .ne 7, 3) := by decide +kernel
theorem dX3_canHavePassedTo_41 : decode cX3_canHavePassedTo 41 = .ok (.iconst 1, 1) := by decide +kernel
theorem dX3_canHavePassedTo_42 : decode cX3_canHavePassedTo 42 = .ok (.goto 4, 3) := by decide +kernel
theorem dX3_canHavePassedTo_45 : decode cX3_canHavePassedTo 45 = .ok (.iconst 0, 1) := by decide +kernel
theorem dX3_canHavePassedTo_46 : decode cX3_canHavePassedTo 46 = .ok (.ireturn, 1) := by decide +kernel
theorem dX4_init_0 : decode cX4_init 0 = .ok (.aload_n 0, 1) := by decide +kernel
theorem dX4_init_1 : decode cX4_init 1 = .ok (.invokespecial 3, 3) := by decide +kernel
theorem dX4_init_4 : decode cX4_init 4 = .ok (.aload_n 0, 1) := by decide +kernel
theorem dX4_init_5 : decode cX4_init 5 = .ok (.sipush 960, 3) := by decide +kernel
theorem dX4_init_8 : decode cX4_init 8 = .ok (.newarray .long, 2) := by decide +kernel
theorem dX4_init_10 : decode cX4_init 10 = .ok (.putfield 9, 3) := by decide +kernel
theorem dX4_init_13 : decode cX4_init 13 = .ok (.aload_n 0, 1) := by decide +kernel
theorem dX4_init_14 : decode cX4_init 14 = .ok (.aload_n 1, 1) := by decide +kernel
theorem dX4_init_15 : decode cX4_init 15 = .ok (.putfield 15, 3) := by decide +kernel
theorem dX4_init_18 : decode cX4_init 18 = .ok (.aload_n 0, 1) := by decide +kernel
theorem dX4_init_19 : decode cX4_init 19 = .ok (.iload_n 2, 1) := by decide +kernel
theorem dX4_init_20 : decode cX4_init 20 = .ok (.putfield 19, 3) := by decide +kernel
theorem dX4_init_23 : decode cX4_init 23 = .ok (.return_, 1) := by decide +kernel
theorem dX4_mark_0 : decode cX4_mark 0 = .ok (.iconst 0, 1) := by decide +kernel
theorem dX4_mark_1 : decode cX4_mark 1 = .ok (.istore 5, 2) := by decide +kernel
theorem dX4_mark_3 : decode cX4_mark 3 = .ok (.iconst 0, 1) := by decide +kernel
theorem dX4_mark_4 : decode cX4_mark 4 = .ok (.istore 6, 2) := by decide +kernel
theorem dX4_mark_6 : decode cX4_mark 6 = .ok (.iload 6, 2) := by decide +kernel
theorem dX4_mark_8 : decode cX4_mark 8 = .ok (.bipush 16, 2) := by decide +kernel
theorem dX4_mark_10 : decode cX4_mark 10 = .ok (.if_icmp .ge 108, 3) := by decide +kernel
theorem dX4_mark_13 : decode cX4_mark 13 = .ok (.aload_n 1, 1) := by decide +kernel
theorem dX4_mark_14 : decode cX4_mark 14 = .ok (.getfield 23, 3) := by decide +kernel
theorem dX4_mark_17 : decode cX4_mark 17 = .ok (.bipush 16, 2) := by decide +kernel
theorem dX4_mark_19 : decode cX4_mark 19 = .ok (.imul, 1) := by decide +kernel
theorem dX4_mark_20 : decode cX4_mark 20 = .ok (.iload 6, 2) := by decide +kernel
theorem dX4_mark_22 : decode cX4_mark 22 = .ok (.iadd, 1) := by decide +kernel
theorem dX4_mark_23 : decode cX4_mark 23 = .ok (.istore 7, 2) := by decide +kernel
theorem dX4_mark_25 : decode cX4_mark 25 = .ok (.iload_n 2, 1) := by decide +kernel
theorem dX4_mark_26 : decode cX4_mark 26 = .ok (.iload 6, 2) := by decide +kernel
theorem dX4_mark_28 : decode cX4_mark 28 = .ok (.bipush 64, 2) := by decide +kernel
theorem dX4_mark_30 : decode cX4_mark 30 = .ok (.imul, 1) := by decide +kernel
theorem dX4_mark_31 : decode cX4_mark 31 = .ok (.isub, 1) := by decide +kernel
theorem dX4_mark_32 : decode cX4_mark 32 = .ok (.iload_n 3, 1) := by decide +kernel
theorem dX4_mark_33 : decode cX4_mark 33 = .ok (.iload 6, 2) := by decide +kernel
theorem dX4_mark_35 : decode cX4_mark 35 = .ok (.bipush 64, 2) := by decide +kernel
theorem dX4_mark_37 : decode cX4_mark 37 = .ok (.imul, 1) := by decide +kernel
theorem dX4_mark_38 : decode cX4_mark 38 = .ok (.isub, 1) := by decide +kernel
theorem dX4_mark_39 : decode cX4_mark 39 = .ok (.invokestatic 28, 3) := by decide +kernel
theorem dX4_mark_42 : decode cX4_mark 42 = .ok (.lstore 8, 2) := by decide +kernel
theorem dX4_mark_44 : decode cX4_mark 44 = .ok (.iload 7, 2) := by decide +kernel
theorem dX4_mark_46 : decode cX4_mark 46 = .ok (.ifCond .lt 66, 3) := by decide +kernel
theorem dX4_mark_49 : decode cX4_mark 49 = .ok (.iload 7, 2) := by decide +kernel
theorem dX4_mark_51 : decode cX4_mark 51 = .ok (.aload_n 0, 1) := by decide +kernel
theorem dX4_mark_52 : decode cX4_mark 52 = .ok (.getfield 9, 3) := by decide +kernel
theorem dX4_mark_55 : decode cX4_mark 55 = .ok (.arraylength, 1) := by decide +kernel
theorem dX4_mark_56 : decode cX4_mark 56 = .ok (.if_icmp .ge 56, 3) := by decide +kernel
theorem dX4_mark_59 : decode cX4_mark 59 = .ok (.lload 8, 2) := by decide +kernel
theorem dX4_mark_61 : decode cX4_mark 61 = .ok (.iload 4, 2) := by decide +kernel
theorem dX4_mark_63 : decode cX4_mark 63 = .ok (.ifCond .eq 17, 3) := by decide +kernel
theorem dX4_mark_66 : decode cX4_mark 66 = .ok (.aload_n 0, 1) := by decide +kernel
theorem dX4_mark_67 : decode cX4_mark 67 = .ok (.getfield 9, 3) := by decide +kernel
theorem dX4_mark_70 : decode cX4_mark 70 = .ok (.iload 7, 2) := by decide +kernel
theorem dX4_mark_72 : decode cX4_mark 72 = .ok (.laload, 1) := by decide +kernel
theorem dX4_mark_73 : decode cX4_mark 73 = .ok (.ldc2_w 32, 3) := by decide +kernel
theorem dX4_mark_76 : decode cX4_mark 76 = .ok (.lxor, 1) := by decide +kernel
theorem dX4_mark_77 : decode cX4_mark 77 = .ok (.goto 10, 3) := by decide +kernel
theorem dX4_mark_80 : decode cX4_mark 80 = .ok (.aload_n 0, 1) := by decide +kernel
theorem dX4_mark_81 : decode cX4_mark 81 = .ok (.getfield 9, 3) := by decide +kernel
theorem dX4_mark_84 : decode cX4_mark 84 = .ok (.iload 7, 2) := by decide +kernel
theorem dX4_mark_86 : decode cX4_mark 86 = .ok (.laload, 1) := by decide +kernel
theorem dX4_mark_87 : decode cX4_mark 87 = .ok (.land, 1) := by decide +kernel
theorem dX4_mark_88 : decode cX4_mark 88 = .ok (.lstore 10, 2) := by decide +kernel
theorem dX4_mark_90 : decode cX4_mark 90 = .ok (.aload_n 0, 1) := by decide +kernel
theorem dX4_mark_91 : decode cX4_mark 91 = .ok (.getfield 9, 3) := by decide +kernel
theorem dX4_mark_94 : decode cX4_mark 94 = .ok (.iload 7, 2) := by decide +kernel
theorem dX4_mark_96 : decode cX4_mark 96 = .ok (.dup2, 1) := by decide +kernel
theorem dX4_mark_97 : decode cX4_mark 97 = .ok (.laload, 1) := by decide +kernel
theorem dX4_mark_98 : decode cX4_mark 98 = .ok (.lload 10, 2) := by decide +kernel
theorem dX4_mark_100 : decode cX4_mark 100 = .ok (.lxor, 1) := by decide +kernel
theorem dX4_mark_101 : decode cX4_mark 101 = .ok (.lastore, 1) := by decide +kernel
theorem dX4_mark_102 : decode cX4_mark 102 = .ok (.iload 5, 2) := by decide +kernel
theorem dX4_mark_104 : decode cX4_mark 104 = .ok (.lload 10, 2) := by decide +kernel
theorem dX4_mark_106 : decode cX4_mark 106 = .ok (.invokestatic 34, 3) := by decide +kernel
theorem dX4_mark_109 : decode cX4_mark 109 = .ok (.iadd, 1) := by decide +kernel
theorem dX4_mark_110 : decode cX4_mark 110 = .ok (.istore 5, 2) := by decide +kernel
theorem dX4_mark_112 : decode cX4_mark 112 = .ok (.iinc 6 1, 3) := by decide +kernel
theorem dX4_mark_115 : decode cX4_mark 115 = .ok (.goto (-109), 3) := by decide +kernel
theorem dX4_mark_118 : decode cX4_mark 118 = .ok (.iload 5, 2) := by decide +kernel
theorem dX4_mark_120 : decode cX4_mark 120 = .ok (.ireturn, 1) := by decide +kernel
theorem dX4_bitsBetween_0 : decode cX4_bitsBetween 0 = .ok (.iload_n 0, 1) := by decide +kernel
theorem dX4_bitsBetween_1 : decode cX4_bitsBetween 1 = .ok (.iconst 0, 1) := by decide +kernel
theorem dX4_bitsBetween_2 : decode cX4_bitsBetween 2 = .ok (.invokestatic 40, 3) := by decide +kernel
theorem dX4_bitsBetween_5 : decode cX4_bitsBetween 5 = .ok (.istore_n 2, 1) := by decide +kernel
theorem dX4_bitsBetween_6 : decode cX4_bitsBetween 6 = .ok (.iload_n 1, 1) := by decide +kernel
theorem dX4_bitsBetween_7 : decode cX4_bitsBetween 7 = .ok (.bipush 64, 2) := by decide +kernel
theorem dX4_bitsBetween_9 : decode cX4_bitsBetween 9 = .ok (.invokestatic 46, 3) := by decide +kernel
theorem dX4_bitsBetween_12 : decode cX4_bitsBetween 12 = .ok (.istore_n 3, 1) := by decide +kernel
theorem dX4_bitsBetween_13 : decode cX4_bitsBetween 13 = .ok (.iload_n 2, 1) := by decide +kernel
theorem dX4_bitsBetween_14 : decode cX4_bitsBetween 14 = .ok (.iload_n 3, 1) := by decide +kernel
theorem dX4_bitsBetween_15 : decode cX4_bitsBetween 15 = .ok (.if_icmp .lt 7, 3) := by decide +kernel
theorem dX4_bitsBetween_18 : decode cX4_bitsBetween 18 = .ok (.lconst 0, 1) := by decide +kernel
theorem dX4_bitsBetween_19 : decode cX4_bitsBetween 19 = .ok (.goto 17, 3) := by decide +kernel
theorem dX4_bitsBetween_22 : decode cX4_bitsBetween 22 = .ok (.ldc2_w 32, 3) := by decide +kernel
theorem dX4_bitsBetween_25 : decode cX4_bitsBetween 25 = .ok (.iload_n 2, 1) := by decide +kernel
theorem dX4_bitsBetween_26 : decode cX4_bitsBetween 26 = .ok (.lshl, 1) := by decide +kernel
theorem dX4_bitsBetween_27 : decode cX4_bitsBetween 27 = .ok (.ldc2_w 32, 3) := by decide +kernel
theorem dX4_bitsBetween_30 : decode cX4_bitsBetween 30 = .ok (.bipush 64, 2) := by decide +kernel
theorem dX4_bitsBetween_32 : decode cX4_bitsBetween 32 = .ok (.iload_n 3, 1) := by decide +kernel
theorem dX4_bitsBetween_33 : decode cX4_bitsBetween 33 = .ok (.isub, 1) := by decide +kernel
theorem dX4_bitsBetween_34 : decode cX4_bitsBetween 34 = .ok (.lushr, 1) := by decide +kernel
theorem dX4_bitsBetween_35 : decode cX4_bitsBetween 35 = .ok (.land, 1) := by decide +kernel
theorem dX4_bitsBetween_36 : decode cX4_bitsBetween 36 = .ok (.lreturn, 1) := by decide +kernel
theorem dX4_leftOutOf_0 : decode cX4_leftOutOf 0 = .ok (.iconst 0, 1) := by decide +kernel
theorem dX4_leftOutOf_1 : decode cX4_leftOutOf 1 = .ok (.istore_n 2, 1) := by decide +kernel
theorem dX4_leftOutOf_2 : decode cX4_leftOutOf 2 = .ok (.iconst 0, 1) := by decide +kernel
theorem dX4_leftOutOf_3 : decode cX4_leftOutOf 3 = .ok (.istore_n 3, 1) := by decide +kernel
theorem dX4_leftOutOf_4 : decode cX4_leftOutOf 4 = .ok (.iload_n 3, 1) := by decide +kernel
theorem dX4_leftOutOf_5 : decode cX4_leftOutOf 5 = .ok (.bipush 16, 2) := by decide +kernel
theorem dX4_leftOutOf_7 : decode cX4_leftOutOf 7 = .ok (.if_icmp .ge 48, 3) := by decide +kernel
theorem dX4_leftOutOf_10 : decode cX4_leftOutOf 10 = .ok (.aload_n 1, 1) := by decide +kernel
theorem dX4_leftOutOf_11 : decode cX4_leftOutOf 11 = .ok (.getfield 23, 3) := by decide +kernel
theorem dX4_leftOutOf_14 : decode cX4_leftOutOf 14 = .ok (.bipush 16, 2) := by decide +kernel
theorem dX4_leftOutOf_16 : decode cX4_leftOutOf 16 = .ok (.imul, 1) := by decide +kernel
theorem dX4_leftOutOf_17 : decode cX4_leftOutOf 17 = .ok (.iload_n 3, 1) := by decide +kernel
theorem dX4_leftOutOf_18 : decode cX4_leftOutOf 18 = .ok (.iadd, 1) := by decide +kernel
theorem dX4_leftOutOf_19 : decode cX4_leftOutOf 19 = .ok (.istore 4, 2) := by decide +kernel
theorem dX4_leftOutOf_21 : decode cX4_leftOutOf 21 = .ok (.iload 4, 2) := by decide +kernel
theorem dX4_leftOutOf_23 : decode cX4_leftOutOf 23 = .ok (.ifCond .lt 26, 3) := by decide +kernel
theorem dX4_leftOutOf_26 : decode cX4_leftOutOf 26 = .ok (.iload 4, 2) := by decide +kernel
theorem dX4_leftOutOf_28 : decode cX4_leftOutOf 28 = .ok (.aload_n 0, 1) := by decide +kernel
theorem dX4_leftOutOf_29 : decode cX4_leftOutOf 29 = .ok (.getfield 9, 3) := by decide +kernel
theorem dX4_leftOutOf_32 : decode cX4_leftOutOf 32 = .ok (.arraylength, 1) := by decide +kernel
theorem dX4_leftOutOf_33 : decode cX4_leftOutOf 33 = .ok (.if_icmp .ge 16, 3) := by decide +kernel
theorem dX4_leftOutOf_36 : decode cX4_leftOutOf 36 = .ok (.iload_n 2, 1) := by decide +kernel
theorem dX4_leftOutOf_37 : decode cX4_leftOutOf 37 = .ok (.aload_n 0, 1) := by decide +kernel
theorem dX4_leftOutOf_38 : decode cX4_leftOutOf 38 = .ok (.getfield 9, 3) := by decide +kernel
theorem dX4_leftOutOf_41 : decode cX4_leftOutOf 41 = .ok (.iload 4, 2) := by decide +kernel
theorem dX4_leftOutOf_43 : decode cX4_leftOutOf 43 = .ok (.laload, 1) := by decide +kernel
theorem dX4_leftOutOf_44 : decode cX4_leftOutOf 44 = .ok (.invokestatic 34, 3) := by decide +kernel
theorem dX4_leftOutOf_47 : decode cX4_leftOutOf 47 = .ok (.iadd, 1) := by decide +kernel
theorem dX4_leftOutOf_48 : decode cX4_leftOutOf 48 = .ok (.istore_n 2, 1) := by decide +kernel
theorem dX4_leftOutOf_49 : decode cX4_leftOutOf 49 = .ok (.iinc 3 1, 3) := by decide +kernel
theorem dX4_leftOutOf_52 : decode cX4_leftOutOf 52 = .ok (.goto (-48), 3) := by decide +kernel
theorem dX4_leftOutOf_55 : decode cX4_leftOutOf 55 = .ok (.iload_n 2, 1) := by decide +kernel
theorem dX4_leftOutOf_56 : decode cX4_leftOutOf 56 = .ok (.ireturn, 1) := by decide +kernel
theorem dX4_isLeftOut_0 : decode cX4_isLeftOut 0 = .ok (.aload_n 1, 1) := by decide +kernel
theorem dX4_isLeftOut_1 : decode cX4_isLeftOut 1 = .ok (.getfield 23, 3) := by decide +kernel
theorem dX4_isLeftOut_4 : decode cX4_isLeftOut 4 = .ok (.bipush 16, 2) := by decide +kernel
theorem dX4_isLeftOut_6 : decode cX4_isLeftOut 6 = .ok (.imul, 1) := by decide +kernel
theorem dX4_isLeftOut_7 : decode cX4_isLeftOut 7 = .ok (.iload_n 2, 1) := by decide +kernel
theorem dX4_isLeftOut_8 : decode cX4_isLeftOut 8 = .ok (.bipush 64, 2) := by decide +kernel
theorem dX4_isLeftOut_10 : decode cX4_isLeftOut 10 = .ok (.idiv, 1) := by decide +kernel
theorem dX4_isLeftOut_11 : decode cX4_isLeftOut 11 = .ok (.iadd, 1) := by decide +kernel
theorem dX4_isLeftOut_12 : decode cX4_isLeftOut 12 = .ok (.istore_n 3, 1) := by decide +kernel
theorem dX4_isLeftOut_13 : decode cX4_isLeftOut 13 = .ok (.iload_n 3, 1) := by decide +kernel
theorem dX4_isLeftOut_14 : decode cX4_isLeftOut 14 = .ok (.ifCond .lt 34, 3) := by decide +kernel
theorem dX4_isLeftOut_17 : decode cX4_isLeftOut 17 = .ok (.iload_n 3, 1) := by decide +kernel
theorem dX4_isLeftOut_18 : decode cX4_isLeftOut 18 = .ok (.aload_n 0, 1) := by decide +kernel
theorem dX4_isLeftOut_19 : decode cX4_isLeftOut 19 = .ok (.getfield 9, 3) := by decide +kernel
theorem dX4_isLeftOut_22 : decode cX4_isLeftOut 22 = .ok (.arraylength, 1) := by decide +kernel
theorem dX4_isLeftOut_23 : decode cX4_isLeftOut 23 = .ok (.if_icmp .ge 25, 3) := by decide +kernel
theorem dX4_isLeftOut_26 : decode cX4_isLeftOut 26 = .ok (.aload_n 0, 1) := by decide +kernel
theorem dX4_isLeftOut_27 : decode cX4_isLeftOut 27 = .ok (.getfield 9, 3) := by decide +kernel
theorem dX4_isLeftOut_30 : decode cX4_isLeftOut 30 = .ok (.iload_n 3, 1) := by decide +kernel
theorem dX4_isLeftOut_31 : decode cX4_isLeftOut 31 = .ok (.laload, 1) := by decide +kernel
theorem dX4_isLeftOut_32 : decode cX4_isLeftOut 32 = .ok (.iload_n 2, 1) := by decide +kernel
theorem dX4_isLeftOut_33 : decode cX4_isLeftOut 33 = .ok (.bipush 64, 2) := by decide +kernel
theorem dX4_isLeftOut_35 : decode cX4_isLeftOut 35 = .ok (.irem, 1) := by decide +kernel
theorem dX4_isLeftOut_36 : decode cX4_isLeftOut 36 = .ok (.lushr, 1) := by decide +kernel
theorem dX4_isLeftOut_37 : decode cX4_isLeftOut 37 = .ok (.lconst 1, 1) := by decide +kernel
theorem dX4_isLeftOut_38 : decode cX4_isLeftOut 38 = .ok (.land, 1) := by decide +kernel
theorem dX4_isLeftOut_39 : decode cX4_isLeftOut 39 = .ok (.lconst 0, 1) := by decide +kernel
theorem dX4_isLeftOut_40 : decode cX4_isLeftOut 40 = .ok (.lcmp, 1) := by decide +kernel
theorem dX4_isLeftOut_41 : decode cX4_isLeftOut 41 = .ok (.ifCond .eq 7, 3) := by decide +kernel
theorem dX4_isLeftOut_44 : decode cX4_isLeftOut 44 = .ok (.iconst 1, 1) := by decide +kernel
theorem dX4_isLeftOut_45 : decode cX4_isLeftOut 45 = .ok (.goto 4, 3) := by decide +kernel
theorem dX4_isLeftOut_48 : decode cX4_isLeftOut 48 = .ok (.iconst 0, 1) := by decide +kernel
theorem dX4_isLeftOut_49 : decode cX4_isLeftOut 49 = .ok (.ireturn, 1) := by decide +kernel
theorem dX4_lengthByShots_0 : decode cX4_lengthByShots 0 = .ok (.iconst 0, 1) := by decide +kernel
theorem dX4_lengthByShots_1 : decode cX4_lengthByShots 1 = .ok (.istore_n 1, 1) := by decide +kernel
theorem dX4_lengthByShots_2 : decode cX4_lengthByShots 2 = .ok (.iconst 0, 1) := by decide +kernel
theorem dX4_lengthByShots_3 : decode cX4_lengthByShots 3 = .ok (.istore_n 2, 1) := by decide +kernel
theorem dX4_lengthByShots_4 : decode cX4_lengthByShots 4 = .ok (.iload_n 2, 1) := by decide +kernel
theorem dX4_lengthByShots_5 : decode cX4_lengthByShots 5 = .ok (.aload_n 0, 1) := by decide +kernel
theorem dX4_lengthByShots_6 : decode cX4_lengthByShots 6 = .ok (.getfield 15, 3) := by decide +kernel
theorem dX4_lengthByShots_9 : decode cX4_lengthByShots 9 = .ok (.getfield 49, 3) := by decide +kernel
theorem dX4_lengthByShots_12 : decode cX4_lengthByShots 12 = .ok (.invokevirtual 55, 3) := by decide +kernel
theorem dX4_lengthByShots_15 : decode cX4_lengthByShots 15 = .ok (.if_icmp .ge 37, 3) := by decide +kernel
theorem dX4_lengthByShots_18 : decode cX4_lengthByShots 18 = .ok (.aload_n 0, 1) := by decide +kernel
theorem dX4_lengthByShots_19 : decode cX4_lengthByShots 19 = .ok (.getfield 15, 3) := by decide +kernel
theorem dX4_lengthByShots_22 : decode cX4_lengthByShots 22 = .ok (.getfield 49, 3) := by decide +kernel
theorem dX4_lengthByShots_25 : decode cX4_lengthByShots 25 = .ok (.iload_n 2, 1) := by decide +kernel
theorem dX4_lengthByShots_26 : decode cX4_lengthByShots 26 = .ok (.invokevirtual 61, 3) := by decide +kernel
theorem dX4_lengthByShots_29 : decode cX4_lengthByShots 29 = .ok (.checkcast 24, 3) := by decide +kernel
theorem dX4_lengthByShots_32 : decode cX4_lengthByShots 32 = .ok (.astore_n 3, 1) := by decide +kernel
theorem dX4_lengthByShots_33 : decode cX4_lengthByShots 33 = .ok (.iload_n 1, 1) := by decide +kernel
theorem dX4_lengthByShots_34 : decode cX4_lengthByShots 34 = .ok (.aload_n 3, 1) := by decide +kernel
theorem dX4_lengthByShots_35 : decode cX4_lengthByShots 35 = .ok (.invokevirtual 65, 3) := by decide +kernel
theorem dX4_lengthByShots_38 : decode cX4_lengthByShots 38 = .ok (.aload_n 0, 1) := by decide +kernel
theorem dX4_lengthByShots_39 : decode cX4_lengthByShots 39 = .ok (.aload_n 3, 1) := by decide +kernel
theorem dX4_lengthByShots_40 : decode cX4_lengthByShots 40 = .ok (.invokevirtual 68, 3) := by decide +kernel
theorem dX4_lengthByShots_43 : decode cX4_lengthByShots 43 = .ok (.isub, 1) := by decide +kernel
theorem dX4_lengthByShots_44 : decode cX4_lengthByShots 44 = .ok (.iadd, 1) := by decide +kernel
theorem dX4_lengthByShots_45 : decode cX4_lengthByShots 45 = .ok (.istore_n 1, 1) := by decide +kernel
theorem dX4_lengthByShots_46 : decode cX4_lengthByShots 46 = .ok (.iinc 2 1, 3) := by decide +kernel
theorem dX4_lengthByShots_49 : decode cX4_lengthByShots 49 = .ok (.goto (-45), 3) := by decide +kernel
theorem dX4_lengthByShots_52 : decode cX4_lengthByShots 52 = .ok (.iload_n 1, 1) := by decide +kernel
theorem dX4_lengthByShots_53 : decode cX4_lengthByShots 53 = .ok (.ireturn, 1) := by decide +kernel
theorem dX4_lengthByFrames_0 : decode cX4_lengthByFrames 0 = .ok (.iconst 0, 1) := by decide +kernel
theorem dX4_lengthByFrames_1 : decode cX4_lengthByFrames 1 = .ok (.istore_n 1, 1) := by decide +kernel
theorem dX4_lengthByFrames_2 : decode cX4_lengthByFrames 2 = .ok (.iconst 0, 1) := by decide +kernel
theorem dX4_lengthByFrames_3 : decode cX4_lengthByFrames 3 = .ok (.istore_n 2, 1) := by decide +kernel
theorem dX4_lengthByFrames_4 : decode cX4_lengthByFrames 4 = .ok (.iload_n 2, 1) := by decide +kernel
theorem dX4_lengthByFrames_5 : decode cX4_lengthByFrames 5 = .ok (.aload_n 0, 1) := by decide +kernel
theorem dX4_lengthByFrames_6 : decode cX4_lengthByFrames 6 = .ok (.getfield 15, 3) := by decide +kernel
theorem dX4_lengthByFrames_9 : decode cX4_lengthByFrames 9 = .ok (.getfield 49, 3) := by decide +kernel
theorem dX4_lengthByFrames_12 : decode cX4_lengthByFrames 12 = .ok (.invokevirtual 55, 3) := by decide +kernel
theorem dX4_lengthByFrames_15 : decode cX4_lengthByFrames 15 = .ok (.if_icmp .ge 59, 3) := by decide +kernel
theorem dX4_lengthByFrames_18 : decode cX4_lengthByFrames 18 = .ok (.aload_n 0, 1) := by decide +kernel
theorem dX4_lengthByFrames_19 : decode cX4_lengthByFrames 19 = .ok (.getfield 15, 3) := by decide +kernel
theorem dX4_lengthByFrames_22 : decode cX4_lengthByFrames 22 = .ok (.getfield 49, 3) := by decide +kernel
theorem dX4_lengthByFrames_25 : decode cX4_lengthByFrames 25 = .ok (.iload_n 2, 1) := by decide +kernel
theorem dX4_lengthByFrames_26 : decode cX4_lengthByFrames 26 = .ok (.invokevirtual 61, 3) := by decide +kernel
theorem dX4_lengthByFrames_29 : decode cX4_lengthByFrames 29 = .ok (.checkcast 24, 3) := by decide +kernel
theorem dX4_lengthByFrames_32 : decode cX4_lengthByFrames 32 = .ok (.astore_n 3, 1) := by decide +kernel
theorem dX4_lengthByFrames_33 : decode cX4_lengthByFrames 33 = .ok (.aload_n 3, 1) := by decide +kernel
theorem dX4_lengthByFrames_34 : decode cX4_lengthByFrames 34 = .ok (.invokevirtual 65, 3) := by decide +kernel
theorem dX4_lengthByFrames_37 : decode cX4_lengthByFrames 37 = .ok (.istore 4, 2) := by decide +kernel
theorem dX4_lengthByFrames_39 : decode cX4_lengthByFrames 39 = .ok (.iconst 0, 1) := by decide +kernel
theorem dX4_lengthByFrames_40 : decode cX4_lengthByFrames 40 = .ok (.istore 5, 2) := by decide +kernel
theorem dX4_lengthByFrames_42 : decode cX4_lengthByFrames 42 = .ok (.iload 5, 2) := by decide +kernel
theorem dX4_lengthByFrames_44 : decode cX4_lengthByFrames 44 = .ok (.iload 4, 2) := by decide +kernel
theorem dX4_lengthByFrames_46 : decode cX4_lengthByFrames 46 = .ok (.if_icmp .ge 22, 3) := by decide +kernel
theorem dX4_lengthByFrames_49 : decode cX4_lengthByFrames 49 = .ok (.aload_n 0, 1) := by decide +kernel
theorem dX4_lengthByFrames_50 : decode cX4_lengthByFrames 50 = .ok (.aload_n 3, 1) := by decide +kernel
theorem dX4_lengthByFrames_51 : decode cX4_lengthByFrames 51 = .ok (.iload 5, 2) := by decide +kernel
theorem dX4_lengthByFrames_53 : decode cX4_lengthByFrames 53 = .ok (.invokevirtual 72, 3) := by decide +kernel
theorem dX4_lengthByFrames_56 : decode cX4_lengthByFrames 56 = .ok (.ifCond .ne 6, 3) := by decide +kernel
theorem dX4_lengthByFrames_59 : decode cX4_lengthByFrames 59 = .ok (.iinc 1 1, 3) := by decide +kernel
theorem dX4_lengthByFrames_62 : decode cX4_lengthByFrames 62 = .ok (.iinc 5 1, 3) := by decide +kernel
theorem dX4_lengthByFrames_65 : decode cX4_lengthByFrames 65 = .ok (.goto (-23), 3) := by decide +kernel
theorem dX4_lengthByFrames_68 : decode cX4_lengthByFrames 68 = .ok (.iinc 2 1, 3) := by decide +kernel
theorem dX4_lengthByFrames_71 : decode cX4_lengthByFrames 71 = .ok (.goto (-67), 3) := by decide +kernel
theorem dX4_lengthByFrames_74 : decode cX4_lengthByFrames 74 = .ok (.iload_n 1, 1) := by decide +kernel
theorem dX4_lengthByFrames_75 : decode cX4_lengthByFrames 75 = .ok (.ireturn, 1) := by decide +kernel
theorem dX6_init_0 : decode cX6_init 0 = .ok (.aload_n 0, 1) := by decide +kernel
theorem dX6_init_1 : decode cX6_init 1 = .ok (.invokespecial 1, 3) := by decide +kernel
theorem dX6_init_4 : decode cX6_init 4 = .ok (.aload_n 0, 1) := by decide +kernel
theorem dX6_init_5 : decode cX6_init 5 = .ok (.sipush 360, 3) := by decide +kernel
theorem dX6_init_8 : decode cX6_init 8 = .ok (.newarray .int, 2) := by decide +kernel
theorem dX6_init_10 : decode cX6_init 10 = .ok (.putfield 7, 3) := by decide +kernel
theorem dX6_init_13 : decode cX6_init 13 = .ok (.aload_n 0, 1) := by decide +kernel
theorem dX6_init_14 : decode cX6_init 14 = .ok (.bipush 6, 2) := by decide +kernel
theorem dX6_init_16 : decode cX6_init 16 = .ok (.newarray .int, 2) := by decide +kernel
theorem dX6_init_18 : decode cX6_init 18 = .ok (.putfield 13, 3) := by decide +kernel
theorem dX6_init_21 : decode cX6_init 21 = .ok (.aload_n 0, 1) := by decide +kernel
theorem dX6_init_22 : decode cX6_init 22 = .ok (.bipush 60, 2) := by decide +kernel
theorem dX6_init_24 : decode cX6_init 24 = .ok (.newarray .int, 2) := by decide +kernel
theorem dX6_init_26 : decode cX6_init 26 = .ok (.putfield 16, 3) := by decide +kernel
theorem dX6_init_29 : decode cX6_init 29 = .ok (.aload_n 0, 1) := by decide +kernel
theorem dX6_init_30 : decode cX6_init 30 = .ok (.bipush 60, 2) := by decide +kernel
theorem dX6_init_32 : decode cX6_init 32 = .ok (.newarray .int, 2) := by decide +kernel
theorem dX6_init_34 : decode cX6_init 34 = .ok (.putfield 19, 3) := by decide +kernel
theorem dX6_init_37 : decode cX6_init 37 = .ok (.aload_n 0, 1) := by decide +kernel
theorem dX6_init_38 : decode cX6_init 38 = .ok (.bipush 60, 2) := by decide +kernel
theorem dX6_init_40 : decode cX6_init 40 = .ok (.newarray .int, 2) := by decide +kernel
theorem dX6_init_42 : decode cX6_init 42 = .ok (.putfield 22, 3) := by decide +kernel
theorem dX6_init_45 : decode cX6_init 45 = .ok (.aload_n 0, 1) := by decide +kernel
theorem dX6_init_46 : decode cX6_init 46 = .ok (.bipush 60, 2) := by decide +kernel
theorem dX6_init_48 : decode cX6_init 48 = .ok (.newarray .int, 2) := by decide +kernel
theorem dX6_init_50 : decode cX6_init 50 = .ok (.putfield 25, 3) := by decide +kernel
theorem dX6_init_53 : decode cX6_init 53 = .ok (.aload_n 0, 1) := by decide +kernel
theorem dX6_init_54 : decode cX6_init 54 = .ok (.bipush 60, 2) := by decide +kernel
theorem dX6_init_56 : decode cX6_init 56 = .ok (.newarray .int, 2) := by decide +kernel
theorem dX6_init_58 : decode cX6_init 58 = .ok (.putfield 28, 3) := by decide +kernel
theorem dX6_init_61 : decode cX6_init 61 = .ok (.aload_n 0, 1) := by decide +kernel
theorem dX6_init_62 : decode cX6_init 62 = .ok (.bipush 60, 2) := by decide +kernel
theorem dX6_init_64 : decode cX6_init 64 = .ok (.newarray .int, 2) := by decide +kernel
theorem dX6_init_66 : decode cX6_init 66 = .ok (.putfield 31, 3) := by decide +kernel
theorem dX6_init_69 : decode cX6_init 69 = .ok (.aload_n 0, 1) := by decide +kernel
theorem dX6_init_70 : decode cX6_init 70 = .ok (.bipush 60, 2) := by decide +kernel
theorem dX6_init_72 : decode cX6_init 72 = .ok (.newarray .int, 2) := by decide +kernel
theorem dX6_init_74 : decode cX6_init 74 = .ok (.putfield 34, 3) := by decide +kernel
theorem dX6_init_77 : decode cX6_init 77 = .ok (.aload_n 0, 1) := by decide +kernel
theorem dX6_init_78 : decode cX6_init 78 = .ok (.bipush 60, 2) := by decide +kernel
theorem dX6_init_80 : decode cX6_init 80 = .ok (.newarray .int, 2) := by decide +kernel
theorem dX6_init_82 : decode cX6_init 82 = .ok (.putfield 37, 3) := by decide +kernel
theorem dX6_init_85 : decode cX6_init 85 = .ok (.aload_n 0, 1) := by decide +kernel
theorem dX6_init_86 : decode cX6_init 86 = .ok (.bipush 24, 2) := by decide +kernel
theorem dX6_init_88 : decode cX6_init 88 = .ok (.newarray .int, 2) := by decide +kernel
theorem dX6_init_90 : decode cX6_init 90 = .ok (.putfield 40, 3) := by decide +kernel
theorem dX6_init_93 : decode cX6_init 93 = .ok (.aload_n 0, 1) := by decide +kernel
theorem dX6_init_94 : decode cX6_init 94 = .ok (.sipush 1440, 3) := by decide +kernel
theorem dX6_init_97 : decode cX6_init 97 = .ok (.newarray .int, 2) := by decide +kernel
theorem dX6_init_99 : decode cX6_init 99 = .ok (.putfield 43, 3) := by decide +kernel
theorem dX6_init_102 : decode cX6_init 102 = .ok (.aload_n 0, 1) := by decide +kernel
theorem dX6_init_103 : decode cX6_init 103 = .ok (.sipush 1440, 3) := by decide +kernel
theorem dX6_init_106 : decode cX6_init 106 = .ok (.newarray .int, 2) := by decide +kernel
theorem dX6_init_108 : decode cX6_init 108 = .ok (.putfield 46, 3) := by decide +kernel
theorem dX6_init_111 : decode cX6_init 111 = .ok (.aload_n 0, 1) := by decide +kernel
theorem dX6_init_112 : decode cX6_init 112 = .ok (.bipush 24, 2) := by decide +kernel
theorem dX6_init_114 : decode cX6_init 114 = .ok (.newarray .int, 2) := by decide +kernel
theorem dX6_init_116 : decode cX6_init 116 = .ok (.putfield 49, 3) := by decide +kernel
theorem dX6_init_119 : decode cX6_init 119 = .ok (.aload_n 0, 1) := by decide +kernel
theorem dX6_init_120 : decode cX6_init 120 = .ok (.bipush 10, 2) := by decide +kernel
theorem dX6_init_122 : decode cX6_init 122 = .ok (.putfield 52, 3) := by decide +kernel
theorem dX6_init_125 : decode cX6_init 125 = .ok (.aload_n 0, 1) := by decide +kernel
theorem dX6_init_126 : decode cX6_init 126 = .ok (.bipush 10, 2) := by decide +kernel
theorem dX6_init_128 : decode cX6_init 128 = .ok (.newarray .int, 2) := by decide +kernel
theorem dX6_init_130 : decode cX6_init 130 = .ok (.putfield 56, 3) := by decide +kernel
theorem dX6_init_133 : decode cX6_init 133 = .ok (.aload_n 0, 1) := by decide +kernel
theorem dX6_init_134 : decode cX6_init 134 = .ok (.bipush 10, 2) := by decide +kernel
theorem dX6_init_136 : decode cX6_init 136 = .ok (.newarray .int, 2) := by decide +kernel
theorem dX6_init_138 : decode cX6_init 138 = .ok (.putfield 59, 3) := by decide +kernel
theorem dX6_init_141 : decode cX6_init 141 = .ok (.aload_n 0, 1) := by decide +kernel
theorem dX6_init_142 : decode cX6_init 142 = .ok (.sipush 19200, 3) := by decide +kernel
theorem dX6_init_145 : decode cX6_init 145 = .ok (.newarray .int, 2) := by decide +kernel
theorem dX6_init_147 : decode cX6_init 147 = .ok (.putfield 62, 3) := by decide +kernel
theorem dX6_init_150 : decode cX6_init 150 = .ok (.aload_n 0, 1) := by decide +kernel
theorem dX6_init_151 : decode cX6_init 151 = .ok (.bipush 20, 2) := by decide +kernel
theorem dX6_init_153 : decode cX6_init 153 = .ok (.newarray .int, 2) := by decide +kernel
theorem dX6_init_155 : decode cX6_init 155 = .ok (.putfield 65, 3) := by decide +kernel
theorem dX6_init_158 : decode cX6_init 158 = .ok (.aload_n 0, 1) := by decide +kernel
theorem dX6_init_159 : decode cX6_init 159 = .ok (.bipush 20, 2) := by decide +kernel
theorem dX6_init_161 : decode cX6_init 161 = .ok (.newarray .int, 2) := by decide +kernel
theorem dX6_init_163 : decode cX6_init 163 = .ok (.putfield 68, 3) := by decide +kernel
theorem dX6_init_166 : decode cX6_init 166 = .ok (.aload_n 0, 1) := by decide +kernel
theorem dX6_init_167 : decode cX6_init 167 = .ok (.bipush 20, 2) := by decide +kernel
theorem dX6_init_169 : decode cX6_init 169 = .ok (.newarray .int, 2) := by decide +kernel
theorem dX6_init_171 : decode cX6_init 171 = .ok (.putfield 71, 3) := by decide +kernel
theorem dX6_init_174 : decode cX6_init 174 = .ok (.aload_n 0, 1) := by decide +kernel
theorem dX6_init_175 : decode cX6_init 175 = .ok (.bipush 20, 2) := by decide +kernel
theorem dX6_init_177 : decode cX6_init 177 = .ok (.newarray .int, 2) := by decide +kernel
theorem dX6_init_179 : decode cX6_init 179 = .ok (.putfield 74, 3) := by decide +kernel
theorem dX6_init_182 : decode cX6_init 182 = .ok (.aload_n 0, 1) := by decide +kernel
theorem dX6_init_183 : decode cX6_init 183 = .ok (.bipush 20, 2) := by decide +kernel
theorem dX6_init_185 : decode cX6_init 185 = .ok (.newarray .boolean, 2) := by decide +kernel
theorem dX6_init_187 : decode cX6_init 187 = .ok (.putfield 77, 3) := by decide +kernel
theorem dX6_init_190 : decode cX6_init 190 = .ok (.return_, 1) := by decide +kernel
theorem dX6_thrown_0 : decode cX6_thrown 0 = .ok (.aload_n 0, 1) := by decide +kernel
theorem dX6_thrown_1 : decode cX6_thrown 1 = .ok (.getfield 81, 3) := by decide +kernel
theorem dX6_thrown_4 : decode cX6_thrown 4 = .ok (.ireturn, 1) := by decide +kernel
theorem dX6_in_0 : decode cX6_in 0 = .ok (.iload_n 0, 1) := by decide +kernel
theorem dX6_in_1 : decode cX6_in 1 = .ok (.iload_n 1, 1) := by decide +kernel
theorem dX6_in_2 : decode cX6_in 2 = .ok (.if_icmp .lt 12, 3) := by decide +kernel
theorem dX6_in_5 : decode cX6_in 5 = .ok (.iload_n 0, 1) := by decide +kernel
theorem dX6_in_6 : decode cX6_in 6 = .ok (.iload_n 2, 1) := by decide +kernel
theorem dX6_in_7 : decode cX6_in 7 = .ok (.if_icmp .gt 7, 3) := by decide +kernel
theorem dX6_in_10 : decode cX6_in 10 = .ok (.iconst 1, 1) := by decide +kernel
theorem dX6_in_11 : decode cX6_in 11 = .ok (.goto 4, 3) := by decide +kernel
theorem dX6_in_14 : decode cX6_in 14 = .ok (.iconst 0, 1) := by decide +kernel
theorem dX6_in_15 : decode cX6_in 15 = .ok (.ireturn, 1) := by decide +kernel
theorem dX6_goesOn_0 : decode cX6_goesOn 0 = .ok (.aload_n 0, 1) := by decide +kernel
theorem dX6_goesOn_1 : decode cX6_goesOn 1 = .ok (.iload_n 1, 1) := by decide +kernel
theorem dX6_goesOn_2 : decode cX6_goesOn 2 = .ok (.putfield 81, 3) := by decide +kernel
theorem dX6_goesOn_5 : decode cX6_goesOn 5 = .ok (.iload_n 1, 1) := by decide +kernel
theorem dX6_goesOn_6 : decode cX6_goesOn 6 = .ok (.ifCond .ne 7, 3) := by decide +kernel
theorem dX6_goesOn_9 : decode cX6_goesOn 9 = .ok (.iconst 1, 1) := by decide +kernel
theorem dX6_goesOn_10 : decode cX6_goesOn 10 = .ok (.goto 4, 3) := by decide +kernel
theorem dX6_goesOn_13 : decode cX6_goesOn 13 = .ok (.iconst 0, 1) := by decide +kernel
theorem dX6_goesOn_14 : decode cX6_goesOn 14 = .ok (.ireturn, 1) := by decide +kernel
theorem dX6_isFilm_0 : decode cX6_isFilm 0 = .ok (.iload_n 1, 1) := by decide +kernel
theorem dX6_isFilm_1 : decode cX6_isFilm 1 = .ok (.iconst 0, 1) := by decide +kernel
theorem dX6_isFilm_2 : decode cX6_isFilm 2 = .ok (.aload_n 0, 1) := by decide +kernel
theorem dX6_isFilm_3 : decode cX6_isFilm 3 = .ok (.getfield 84, 3) := by decide +kernel
theorem dX6_isFilm_6 : decode cX6_isFilm 6 = .ok (.iconst 1, 1) := by decide +kernel
theorem dX6_isFilm_7 : decode cX6_isFilm 7 = .ok (.isub, 1) := by decide +kernel
theorem dX6_isFilm_8 : decode cX6_isFilm 8 = .ok (.invokestatic 87, 3) := by decide +kernel
theorem dX6_isFilm_11 : decode cX6_isFilm 11 = .ok (.ireturn, 1) := by decide +kernel
theorem dX6_isShot_0 : decode cX6_isShot 0 = .ok (.iload_n 1, 1) := by decide +kernel
theorem dX6_isShot_1 : decode cX6_isShot 1 = .ok (.iconst 0, 1) := by decide +kernel
theorem dX6_isShot_2 : decode cX6_isShot 2 = .ok (.aload_n 0, 1) := by decide +kernel
theorem dX6_isShot_3 : decode cX6_isShot 3 = .ok (.getfield 91, 3) := by decide +kernel
theorem dX6_isShot_6 : decode cX6_isShot 6 = .ok (.iconst 1, 1) := by decide +kernel
theorem dX6_isShot_7 : decode cX6_isShot 7 = .ok (.isub, 1) := by decide +kernel
theorem dX6_isShot_8 : decode cX6_isShot 8 = .ok (.invokestatic 87, 3) := by decide +kernel
theorem dX6_isShot_11 : decode cX6_isShot 11 = .ok (.ireturn, 1) := by decide +kernel
theorem dX6_isReel_0 : decode cX6_isReel 0 = .ok (.iload_n 1, 1) := by decide +kernel
theorem dX6_isReel_1 : decode cX6_isReel 1 = .ok (.iconst 0, 1) := by decide +kernel
theorem dX6_isReel_2 : decode cX6_isReel 2 = .ok (.aload_n 0, 1) := by decide +kernel
theorem dX6_isReel_3 : decode cX6_isReel 3 = .ok (.getfield 94, 3) := by decide +kernel
theorem dX6_isReel_6 : decode cX6_isReel 6 = .ok (.iconst 1, 1) := by decide +kernel
theorem dX6_isReel_7 : decode cX6_isReel 7 = .ok (.isub, 1) := by decide +kernel
theorem dX6_isReel_8 : decode cX6_isReel 8 = .ok (.invokestatic 87, 3) := by decide +kernel
theorem dX6_isReel_11 : decode cX6_isReel 11 = .ok (.ireturn, 1) := by decide +kernel
theorem dX6_isVersion_0 : decode cX6_isVersion 0 = .ok (.iload_n 1, 1) := by decide +kernel
theorem dX6_isVersion_1 : decode cX6_isVersion 1 = .ok (.iconst 0, 1) := by decide +kernel
theorem dX6_isVersion_2 : decode cX6_isVersion 2 = .ok (.aload_n 0, 1) := by decide +kernel
theorem dX6_isVersion_3 : decode cX6_isVersion 3 = .ok (.getfield 97, 3) := by decide +kernel
theorem dX6_isVersion_6 : decode cX6_isVersion 6 = .ok (.iconst 1, 1) := by decide +kernel
theorem dX6_isVersion_7 : decode cX6_isVersion 7 = .ok (.isub, 1) := by decide +kernel
theorem dX6_isVersion_8 : decode cX6_isVersion 8 = .ok (.invokestatic 87, 3) := by decide +kernel
theorem dX6_isVersion_11 : decode cX6_isVersion 11 = .ok (.ireturn, 1) := by decide +kernel
theorem dX6_isLent_0 : decode cX6_isLent 0 = .ok (.iconst 0, 1) := by decide +kernel
theorem dX6_isLent_1 : decode cX6_isLent 1 = .ok (.istore_n 2, 1) := by decide +kernel
theorem dX6_isLent_2 : decode cX6_isLent 2 = .ok (.iconst 0, 1) := by decide +kernel
theorem dX6_isLent_3 : decode cX6_isLent 3 = .ok (.istore_n 3, 1) := by decide +kernel
theorem dX6_isLent_4 : decode cX6_isLent 4 = .ok (.iload_n 3, 1) := by decide +kernel
theorem dX6_isLent_5 : decode cX6_isLent 5 = .ok (.aload_n 0, 1) := by decide +kernel
theorem dX6_isLent_6 : decode cX6_isLent 6 = .ok (.getfield 100, 3) := by decide +kernel
theorem dX6_isLent_9 : decode cX6_isLent 9 = .ok (.if_icmp .ge 43, 3) := by decide +kernel
theorem dX6_isLent_12 : decode cX6_isLent 12 = .ok (.iload_n 2, 1) := by decide +kernel
theorem dX6_isLent_13 : decode cX6_isLent 13 = .ok (.ifCond .ne 27, 3) := by decide +kernel
theorem dX6_isLent_16 : decode cX6_isLent 16 = .ok (.aload_n 0, 1) := by decide +kernel
theorem dX6_isLent_17 : decode cX6_isLent 17 = .ok (.getfield 77, 3) := by decide +kernel
theorem dX6_isLent_20 : decode cX6_isLent 20 = .ok (.iload_n 3, 1) := by decide +kernel
theorem dX6_isLent_21 : decode cX6_isLent 21 = .ok (.baload, 1) := by decide +kernel
theorem dX6_isLent_22 : decode cX6_isLent 22 = .ok (.ifCond .ne 22, 3) := by decide +kernel
theorem dX6_isLent_25 : decode cX6_isLent 25 = .ok (.aload_n 0, 1) := by decide +kernel
theorem dX6_isLent_26 : decode cX6_isLent 26 = .ok (.getfield 56, 3) := by decide +kernel
theorem dX6_isLent_29 : decode cX6_isLent 29 = .ok (.aload_n 0, 1) := by decide +kernel
theorem dX6_isLent_30 : decode cX6_isLent 30 = .ok (.getfield 65, 3) := by decide +kernel
theorem dX6_isLent_33 : decode cX6_isLent 33 = .ok (.iload_n 3, 1) := by decide +kernel
theorem dX6_isLent_34 : decode cX6_isLent 34 = .ok (.iaload, 1) := by decide +kernel
theorem dX6_isLent_35 : decode cX6_isLent 35 = .ok (.iaload, 1) := by decide +kernel
theorem dX6_isLent_36 : decode cX6_isLent 36 = .ok (.iload_n 1, 1) := by decide +kernel
theorem dX6_isLent_37 : decode cX6_isLent 37 = .ok (.if_icmp .ne 7, 3) := by decide +kernel
theorem dX6_isLent_40 : decode cX6_isLent 40 = .ok (.iconst 1, 1) := by decide +kernel
theorem dX6_isLent_41 : decode cX6_isLent 41 = .ok (.goto 4, 3) := by decide +kernel
theorem dX6_isLent_44 : decode cX6_isLent 44 = .ok (.iconst 0, 1) := by decide +kernel
theorem dX6_isLent_45 : decode cX6_isLent 45 = .ok (.istore_n 2, 1) := by decide +kernel
theorem dX6_isLent_46 : decode cX6_isLent 46 = .ok (.iinc 3 1, 3) := by decide +kernel
theorem dX6_isLent_49 : decode cX6_isLent 49 = .ok (.goto (-45), 3) := by decide +kernel
theorem dX6_isLent_52 : decode cX6_isLent 52 = .ok (.iload_n 2, 1) := by decide +kernel
theorem dX6_isLent_53 : decode cX6_isLent 53 = .ok (.ireturn, 1) := by decide +kernel
theorem dX6_addFilm_0 : decode cX6_addFilm 0 = .ok (.aload_n 0, 1) := by decide +kernel
theorem dX6_addFilm_1 : decode cX6_addFilm 1 = .ok (.aload_n 0, 1) := by decide +kernel
theorem dX6_addFilm_2 : decode cX6_addFilm 2 = .ok (.getfield 84, 3) := by decide +kernel
theorem dX6_addFilm_5 : decode cX6_addFilm 5 = .ok (.bipush 6, 2) := by decide +kernel
theorem dX6_addFilm_7 : decode cX6_addFilm 7 = .ok (.if_icmp .ne 7, 3) := by decide +kernel
theorem dX6_addFilm_10 : decode cX6_addFilm 10 = .ok (.iconst 1, 1) := by decide +kernel
theorem dX6_addFilm_11 : decode cX6_addFilm 11 = .ok (.goto 4, 3) := by decide +kernel
theorem dX6_addFilm_14 : decode cX6_addFilm 14 = .ok (.iconst 0, 1) := by decide +kernel
theorem dX6_addFilm_15 : decode cX6_addFilm 15 = .ok (.invokevirtual 103, 3) := by decide +kernel
theorem dX6_addFilm_18 : decode cX6_addFilm 18 = .ok (.ifCond .ne 5, 3) := by decide +kernel
theorem dX6_addFilm_21 : decode cX6_addFilm 21 = .ok (.iconst 0, 1) := by decide +kernel
theorem dX6_addFilm_22 : decode cX6_addFilm 22 = .ok (.ireturn, 1) := by decide +kernel
theorem dX6_addFilm_23 : decode cX6_addFilm 23 = .ok (.aload_n 0, 1) := by decide +kernel
theorem dX6_addFilm_24 : decode cX6_addFilm 24 = .ok (.dup, 1) := by decide +kernel
theorem dX6_addFilm_25 : decode cX6_addFilm 25 = .ok (.getfield 84, 3) := by decide +kernel
theorem dX6_addFilm_28 : decode cX6_addFilm 28 = .ok (.iconst 1, 1) := by decide +kernel
theorem dX6_addFilm_29 : decode cX6_addFilm 29 = .ok (.iadd, 1) := by decide +kernel
theorem dX6_addFilm_30 : decode cX6_addFilm 30 = .ok (.putfield 84, 3) := by decide +kernel
theorem dX6_addFilm_33 : decode cX6_addFilm 33 = .ok (.aload_n 0, 1) := by decide +kernel
theorem dX6_addFilm_34 : decode cX6_addFilm 34 = .ok (.getfield 84, 3) := by decide +kernel
theorem dX6_addFilm_37 : decode cX6_addFilm 37 = .ok (.iconst 1, 1) := by decide +kernel
theorem dX6_addFilm_38 : decode cX6_addFilm 38 = .ok (.isub, 1) := by decide +kernel
theorem dX6_addFilm_39 : decode cX6_addFilm 39 = .ok (.ireturn, 1) := by decide +kernel
theorem dX6_makes_0 : decode cX6_makes 0 = .ok (.aload_n 0, 1) := by decide +kernel
theorem dX6_makes_1 : decode cX6_makes 1 = .ok (.getfield 13, 3) := by decide +kernel
theorem dX6_makes_4 : decode cX6_makes 4 = .ok (.iload_n 1, 1) := by decide +kernel
theorem dX6_makes_5 : decode cX6_makes 5 = .ok (.iaload, 1) := by decide +kernel
theorem dX6_makes_6 : decode cX6_makes 6 = .ok (.istore 5, 2) := by decide +kernel
theorem dX6_makes_8 : decode cX6_makes 8 = .ok (.iload 5, 2) := by decide +kernel
theorem dX6_makes_10 : decode cX6_makes 10 = .ok (.iload_n 2, 1) := by decide +kernel
theorem dX6_makes_11 : decode cX6_makes 11 = .ok (.if_icmp .le 35, 3) := by decide +kernel
theorem dX6_makes_14 : decode cX6_makes 14 = .ok (.aload_n 0, 1) := by decide +kernel
theorem dX6_makes_15 : decode cX6_makes 15 = .ok (.getfield 7, 3) := by decide +kernel
theorem dX6_makes_18 : decode cX6_makes 18 = .ok (.bipush 60, 2) := by decide +kernel
theorem dX6_makes_20 : decode cX6_makes 20 = .ok (.iload_n 1, 1) := by decide +kernel
theorem dX6_makes_21 : decode cX6_makes 21 = .ok (.imul, 1) := by decide +kernel
theorem dX6_makes_22 : decode cX6_makes 22 = .ok (.iload 5, 2) := by decide +kernel
theorem dX6_makes_24 : decode cX6_makes 24 = .ok (.iadd, 1) := by decide +kernel
theorem dX6_makes_25 : decode cX6_makes 25 = .ok (.aload_n 0, 1) := by decide +kernel
theorem dX6_makes_26 : decode cX6_makes 26 = .ok (.getfield 7, 3) := by decide +kernel
theorem dX6_makes_29 : decode cX6_makes 29 = .ok (.bipush 60, 2) := by decide +kernel
theorem dX6_makes_31 : decode cX6_makes 31 = .ok (.iload_n 1, 1) := by decide +kernel
theorem dX6_makes_32 : decode cX6_makes 32 = .ok (.imul, 1) := by decide +kernel
theorem dX6_makes_33 : decode cX6_makes 33 = .ok (.iload 5, 2) := by decide +kernel
theorem dX6_makes_35 : decode cX6_makes 35 = .ok (.iadd, 1) := by decide +kernel
theorem dX6_makes_36 : decode cX6_makes 36 = .ok (.iconst 1, 1) := by decide +kernel
theorem dX6_makes_37 : decode cX6_makes 37 = .ok (.isub, 1) := by decide +kernel
theorem dX6_makes_38 : decode cX6_makes 38 = .ok (.iaload, 1) := by decide +kernel
theorem dX6_makes_39 : decode cX6_makes 39 = .ok (.iastore, 1) := by decide +kernel
theorem dX6_makes_40 : decode cX6_makes 40 = .ok (.iinc 5 (-1), 3) := by decide +kernel
theorem dX6_makes_43 : decode cX6_makes 43 = .ok (.goto (-35), 3) := by decide +kernel
theorem dX6_makes_46 : decode cX6_makes 46 = .ok (.aload_n 0, 1) := by decide +kernel
theorem dX6_makes_47 : decode cX6_makes 47 = .ok (.getfield 7, 3) := by decide +kernel
theorem dX6_makes_50 : decode cX6_makes 50 = .ok (.bipush 60, 2) := by decide +kernel
theorem dX6_makes_52 : decode cX6_makes 52 = .ok (.iload_n 1, 1) := by decide +kernel
theorem dX6_makes_53 : decode cX6_makes 53 = .ok (.imul, 1) := by decide +kernel
theorem dX6_makes_54 : decode cX6_makes 54 = .ok (.iload_n 2, 1) := by decide +kernel
theorem dX6_makes_55 : decode cX6_makes 55 = .ok (.iadd, 1) := by decide +kernel
theorem dX6_makes_56 : decode cX6_makes 56 = .ok (.aload_n 0, 1) := by decide +kernel
theorem dX6_makes_57 : decode cX6_makes 57 = .ok (.getfield 91, 3) := by decide +kernel
theorem dX6_makes_60 : decode cX6_makes 60 = .ok (.iastore, 1) := by decide +kernel
theorem dX6_makes_61 : decode cX6_makes 61 = .ok (.aload_n 0, 1) := by decide +kernel
theorem dX6_makes_62 : decode cX6_makes 62 = .ok (.getfield 13, 3) := by decide +kernel
theorem dX6_makes_65 : decode cX6_makes 65 = .ok (.iload_n 1, 1) := by decide +kernel
theorem dX6_makes_66 : decode cX6_makes 66 = .ok (.dup2, 1) := by decide +kernel
theorem dX6_makes_67 : decode cX6_makes 67 = .ok (.iaload, 1) := by decide +kernel
theorem dX6_makes_68 : decode cX6_makes 68 = .ok (.iconst 1, 1) := by decide +kernel
theorem dX6_makes_69 : decode cX6_makes 69 = .ok (.iadd, 1) := by decide +kernel
theorem dX6_makes_70 : decode cX6_makes 70 = .ok (.iastore, 1) := by decide +kernel
theorem dX6_makes_71 : decode cX6_makes 71 = .ok (.aload_n 0, 1) := by decide +kernel
theorem dX6_makes_72 : decode cX6_makes 72 = .ok (.getfield 16, 3) := by decide +kernel
theorem dX6_makes_75 : decode cX6_makes 75 = .ok (.aload_n 0, 1) := by decide +kernel
theorem dX6_makes_76 : decode cX6_makes 76 = .ok (.getfield 91, 3) := by decide +kernel
theorem dX6_makes_79 : decode cX6_makes 79 = .ok (.iload_n 1, 1) := by decide +kernel
theorem dX6_makes_80 : decode cX6_makes 80 = .ok (.iastore, 1) := by decide +kernel
theorem dX6_makes_81 : decode cX6_makes 81 = .ok (.aload_n 0, 1) := by decide +kernel
theorem dX6_makes_82 : decode cX6_makes 82 = .ok (.getfield 19, 3) := by decide +kernel
theorem dX6_makes_85 : decode cX6_makes 85 = .ok (.aload_n 0, 1) := by decide +kernel
theorem dX6_makes_86 : decode cX6_makes 86 = .ok (.getfield 91, 3) := by decide +kernel
theorem dX6_makes_89 : decode cX6_makes 89 = .ok (.iload_n 3, 1) := by decide +kernel
theorem dX6_makes_90 : decode cX6_makes 90 = .ok (.iastore, 1) := by decide +kernel
theorem dX6_makes_91 : decode cX6_makes 91 = .ok (.aload_n 0, 1) := by decide +kernel
theorem dX6_makes_92 : decode cX6_makes 92 = .ok (.getfield 22, 3) := by decide +kernel
theorem dX6_makes_95 : decode cX6_makes 95 = .ok (.aload_n 0, 1) := by decide +kernel
theorem dX6_makes_96 : decode cX6_makes 96 = .ok (.getfield 91, 3) := by decide +kernel
theorem dX6_makes_99 : decode cX6_makes 99 = .ok (.iload 4, 2) := by decide +kernel
theorem dX6_makes_101 : decode cX6_makes 101 = .ok (.iastore, 1) := by decide +kernel
theorem dX6_makes_102 : decode cX6_makes 102 = .ok (.aload_n 0, 1) := by decide +kernel
theorem dX6_makes_103 : decode cX6_makes 103 = .ok (.getfield 25, 3) := by decide +kernel
theorem dX6_makes_106 : decode cX6_makes 106 = .ok (.aload_n 0, 1) := by decide +kernel
theorem dX6_makes_107 : decode cX6_makes 107 = .ok (.getfield 91, 3) := by decide +kernel
theorem dX6_makes_110 : decode cX6_makes 110 = .ok (.iconst (-1), 1) := by decide +kernel
theorem dX6_makes_111 : decode cX6_makes 111 = .ok (.iastore, 1) := by decide +kernel
theorem dX6_makes_112 : decode cX6_makes 112 = .ok (.aload_n 0, 1) := by decide +kernel
theorem dX6_makes_113 : decode cX6_makes 113 = .ok (.getfield 34, 3) := by decide +kernel
theorem dX6_makes_116 : decode cX6_makes 116 = .ok (.aload_n 0, 1) := by decide +kernel
theorem dX6_makes_117 : decode cX6_makes 117 = .ok (.getfield 91, 3) := by decide +kernel
theorem dX6_makes_120 : decode cX6_makes 120 = .ok (.iconst (-1), 1) := by decide +kernel
theorem dX6_makes_121 : decode cX6_makes 121 = .ok (.iastore, 1) := by decide +kernel
theorem dX6_makes_122 : decode cX6_makes 122 = .ok (.aload_n 0, 1) := by decide +kernel
theorem dX6_makes_123 : decode cX6_makes 123 = .ok (.getfield 37, 3) := by decide +kernel
theorem dX6_makes_126 : decode cX6_makes 126 = .ok (.aload_n 0, 1) := by decide +kernel
theorem dX6_makes_127 : decode cX6_makes 127 = .ok (.getfield 91, 3) := by decide +kernel
theorem dX6_makes_130 : decode cX6_makes 130 = .ok (.iconst (-1), 1) := by decide +kernel
theorem dX6_makes_131 : decode cX6_makes 131 = .ok (.iastore, 1) := by decide +kernel
theorem dX6_makes_132 : decode cX6_makes 132 = .ok (.aload_n 0, 1) := by decide +kernel
theorem dX6_makes_133 : decode cX6_makes 133 = .ok (.dup, 1) := by decide +kernel
theorem dX6_makes_134 : decode cX6_makes 134 = .ok (.getfield 91, 3) := by decide +kernel
theorem dX6_makes_137 : decode cX6_makes 137 = .ok (.iconst 1, 1) := by decide +kernel
theorem dX6_makes_138 : decode cX6_makes 138 = .ok (.iadd, 1) := by decide +kernel
theorem dX6_makes_139 : decode cX6_makes 139 = .ok (.putfield 91, 3) := by decide +kernel
theorem dX6_makes_142 : decode cX6_makes 142 = .ok (.aload_n 0, 1) := by decide +kernel
theorem dX6_makes_143 : decode cX6_makes 143 = .ok (.getfield 91, 3) := by decide +kernel
theorem dX6_makes_146 : decode cX6_makes 146 = .ok (.iconst 1, 1) := by decide +kernel
theorem dX6_makes_147 : decode cX6_makes 147 = .ok (.isub, 1) := by decide +kernel
theorem dX6_makes_148 : decode cX6_makes 148 = .ok (.ireturn, 1) := by decide +kernel
theorem dX6_areFine_0 : decode cX6_areFine 0 = .ok (.iload_n 0, 1) := by decide +kernel
theorem dX6_areFine_1 : decode cX6_areFine 1 = .ok (.iconst 1, 1) := by decide +kernel
theorem dX6_areFine_2 : decode cX6_areFine 2 = .ok (.sipush 999, 3) := by decide +kernel
theorem dX6_areFine_5 : decode cX6_areFine 5 = .ok (.invokestatic 87, 3) := by decide +kernel
theorem dX6_areFine_8 : decode cX6_areFine 8 = .ok (.ifCond .eq 17, 3) := by decide +kernel
theorem dX6_areFine_11 : decode cX6_areFine 11 = .ok (.iload_n 1, 1) := by decide +kernel
theorem dX6_areFine_12 : decode cX6_areFine 12 = .ok (.iconst 0, 1) := by decide +kernel
theorem dX6_areFine_13 : decode cX6_areFine 13 = .ok (.bipush 9, 2) := by decide +kernel
theorem dX6_areFine_15 : decode cX6_areFine 15 = .ok (.invokestatic 87, 3) := by decide +kernel
theorem dX6_areFine_18 : decode cX6_areFine 18 = .ok (.ifCond .eq 7, 3) := by decide +kernel
theorem dX6_areFine_21 : decode cX6_areFine 21 = .ok (.iconst 1, 1) := by decide +kernel
theorem dX6_areFine_22 : decode cX6_areFine 22 = .ok (.goto 4, 3) := by decide +kernel
theorem dX6_areFine_25 : decode cX6_areFine 25 = .ok (.iconst 0, 1) := by decide +kernel
theorem dX6_areFine_26 : decode cX6_areFine 26 = .ok (.ireturn, 1) := by decide +kernel
theorem dX6_addShot_0 : decode cX6_addShot 0 = .ok (.aload_n 0, 1) := by decide +kernel
theorem dX6_addShot_1 : decode cX6_addShot 1 = .ok (.iload_n 1, 1) := by decide +kernel
theorem dX6_addShot_2 : decode cX6_addShot 2 = .ok (.invokevirtual 107, 3) := by decide +kernel
theorem dX6_addShot_5 : decode cX6_addShot 5 = .ok (.istore 4, 2) := by decide +kernel
theorem dX6_addShot_7 : decode cX6_addShot 7 = .ok (.aload_n 0, 1) := by decide +kernel
theorem dX6_addShot_8 : decode cX6_addShot 8 = .ok (.iload 4, 2) := by decide +kernel
theorem dX6_addShot_10 : decode cX6_addShot 10 = .ok (.ifCond .ne 7, 3) := by decide +kernel
theorem dX6_addShot_13 : decode cX6_addShot 13 = .ok (.iconst 1, 1) := by decide +kernel
theorem dX6_addShot_14 : decode cX6_addShot 14 = .ok (.goto 29, 3) := by decide +kernel
theorem dX6_addShot_17 : decode cX6_addShot 17 = .ok (.iload_n 2, 1) := by decide +kernel
theorem dX6_addShot_18 : decode cX6_addShot 18 = .ok (.iload_n 3, 1) := by decide +kernel
theorem dX6_addShot_19 : decode cX6_addShot 19 = .ok (.invokestatic 110, 3) := by decide +kernel
theorem dX6_addShot_22 : decode cX6_addShot 22 = .ok (.ifCond .ne 7, 3) := by decide +kernel
theorem dX6_addShot_25 : decode cX6_addShot 25 = .ok (.iconst 2, 1) := by decide +kernel
theorem dX6_addShot_26 : decode cX6_addShot 26 = .ok (.goto 17, 3) := by decide +kernel
theorem dX6_addShot_29 : decode cX6_addShot 29 = .ok (.aload_n 0, 1) := by decide +kernel
theorem dX6_addShot_30 : decode cX6_addShot 30 = .ok (.getfield 91, 3) := by decide +kernel
theorem dX6_addShot_33 : decode cX6_addShot 33 = .ok (.bipush 60, 2) := by decide +kernel
theorem dX6_addShot_35 : decode cX6_addShot 35 = .ok (.if_icmp .ne 7, 3) := by decide +kernel
theorem dX6_addShot_38 : decode cX6_addShot 38 = .ok (.iconst 3, 1) := by decide +kernel
theorem dX6_addShot_39 : decode cX6_addShot 39 = .ok (.goto 4, 3) := by decide +kernel
theorem dX6_addShot_42 : decode cX6_addShot 42 = .ok (.iconst 0, 1) := by decide +kernel
theorem dX6_addShot_43 : decode cX6_addShot 43 = .ok (.invokevirtual 103, 3) := by decide +kernel
theorem dX6_addShot_46 : decode cX6_addShot 46 = .ok (.ifCond .ne 5, 3) := by decide +kernel
theorem dX6_addShot_49 : decode cX6_addShot 49 = .ok (.iconst 0, 1) := by decide +kernel
theorem dX6_addShot_50 : decode cX6_addShot 50 = .ok (.ireturn, 1) := by decide +kernel
theorem dX6_addShot_51 : decode cX6_addShot 51 = .ok (.aload_n 0, 1) := by decide +kernel
theorem dX6_addShot_52 : decode cX6_addShot 52 = .ok (.iload_n 1, 1) := by decide +kernel
theorem dX6_addShot_53 : decode cX6_addShot 53 = .ok (.aload_n 0, 1) := by decide +kernel
theorem dX6_addShot_54 : decode cX6_addShot 54 = .ok (.getfield 13, 3) := by decide +kernel
theorem dX6_addShot_57 : decode cX6_addShot 57 = .ok (.iload_n 1, 1) := by decide +kernel
theorem dX6_addShot_58 : decode cX6_addShot 58 = .ok (.iaload, 1) := by decide +kernel
theorem dX6_addShot_59 : decode cX6_addShot 59 = .ok (.iload_n 2, 1) := by decide +kernel
theorem dX6_addShot_60 : decode cX6_addShot 60 = .ok (.iload_n 3, 1) := by decide +kernel
theorem dX6_addShot_61 : decode cX6_addShot 61 = .ok (.invokevirtual 114, 3) := by decide +kernel
theorem dX6_addShot_64 : decode cX6_addShot 64 = .ok (.ireturn, 1) := by decide +kernel
theorem dX6_addReel_0 : decode cX6_addReel 0 = .ok (.aload_n 0, 1) := by decide +kernel
theorem dX6_addReel_1 : decode cX6_addReel 1 = .ok (.aload_n 0, 1) := by decide +kernel
theorem dX6_addReel_2 : decode cX6_addReel 2 = .ok (.iload_n 1, 1) := by decide +kernel
theorem dX6_addReel_3 : decode cX6_addReel 3 = .ok (.invokevirtual 107, 3) := by decide +kernel
theorem dX6_addReel_6 : decode cX6_addReel 6 = .ok (.ifCond .ne 7, 3) := by decide +kernel
theorem dX6_addReel_9 : decode cX6_addReel 9 = .ok (.iconst 1, 1) := by decide +kernel
theorem dX6_addReel_10 : decode cX6_addReel 10 = .ok (.goto 17, 3) := by decide +kernel
theorem dX6_addReel_13 : decode cX6_addReel 13 = .ok (.aload_n 0, 1) := by decide +kernel
theorem dX6_addReel_14 : decode cX6_addReel 14 = .ok (.getfield 94, 3) := by decide +kernel
theorem dX6_addReel_17 : decode cX6_addReel 17 = .ok (.bipush 24, 2) := by decide +kernel
theorem dX6_addReel_19 : decode cX6_addReel 19 = .ok (.if_icmp .ne 7, 3) := by decide +kernel
theorem dX6_addReel_22 : decode cX6_addReel 22 = .ok (.iconst 2, 1) := by decide +kernel
theorem dX6_addReel_23 : decode cX6_addReel 23 = .ok (.goto 4, 3) := by decide +kernel
theorem dX6_addReel_26 : decode cX6_addReel 26 = .ok (.iconst 0, 1) := by decide +kernel
theorem dX6_addReel_27 : decode cX6_addReel 27 = .ok (.invokevirtual 103, 3) := by decide +kernel
theorem dX6_addReel_30 : decode cX6_addReel 30 = .ok (.ifCond .ne 5, 3) := by decide +kernel
theorem dX6_addReel_33 : decode cX6_addReel 33 = .ok (.iconst 0, 1) := by decide +kernel
theorem dX6_addReel_34 : decode cX6_addReel 34 = .ok (.ireturn, 1) := by decide +kernel
theorem dX6_addReel_35 : decode cX6_addReel 35 = .ok (.aload_n 0, 1) := by decide +kernel
theorem dX6_addReel_36 : decode cX6_addReel 36 = .ok (.getfield 40, 3) := by decide +kernel
theorem dX6_addReel_39 : decode cX6_addReel 39 = .ok (.aload_n 0, 1) := by decide +kernel
theorem dX6_addReel_40 : decode cX6_addReel 40 = .ok (.getfield 94, 3) := by decide +kernel
theorem dX6_addReel_43 : decode cX6_addReel 43 = .ok (.iload_n 1, 1) := by decide +kernel
theorem dX6_addReel_44 : decode cX6_addReel 44 = .ok (.iastore, 1) := by decide +kernel
theorem dX6_addReel_45 : decode cX6_addReel 45 = .ok (.aload_n 0, 1) := by decide +kernel
theorem dX6_addReel_46 : decode cX6_addReel 46 = .ok (.dup, 1) := by decide +kernel
theorem dX6_addReel_47 : decode cX6_addReel 47 = .ok (.getfield 94, 3) := by decide +kernel
theorem dX6_addReel_50 : decode cX6_addReel 50 = .ok (.iconst 1, 1) := by decide +kernel
theorem dX6_addReel_51 : decode cX6_addReel 51 = .ok (.iadd, 1) := by decide +kernel
theorem dX6_addReel_52 : decode cX6_addReel 52 = .ok (.putfield 94, 3) := by decide +kernel
theorem dX6_addReel_55 : decode cX6_addReel 55 = .ok (.aload_n 0, 1) := by decide +kernel
theorem dX6_addReel_56 : decode cX6_addReel 56 = .ok (.getfield 94, 3) := by decide +kernel
theorem dX6_addReel_59 : decode cX6_addReel 59 = .ok (.iconst 1, 1) := by decide +kernel
theorem dX6_addReel_60 : decode cX6_addReel 60 = .ok (.isub, 1) := by decide +kernel
theorem dX6_addReel_61 : decode cX6_addReel 61 = .ok (.ireturn, 1) := by decide +kernel
theorem dX6_placeOf_0 : decode cX6_placeOf 0 = .ok (.iconst 0, 1) := by decide +kernel
theorem dX6_placeOf_1 : decode cX6_placeOf 1 = .ok (.istore_n 2, 1) := by decide +kernel
theorem dX6_placeOf_2 : decode cX6_placeOf 2 = .ok (.aload_n 0, 1) := by decide +kernel
theorem dX6_placeOf_3 : decode cX6_placeOf 3 = .ok (.getfield 7, 3) := by decide +kernel
theorem dX6_placeOf_6 : decode cX6_placeOf 6 = .ok (.bipush 60, 2) := by decide +kernel
theorem dX6_placeOf_8 : decode cX6_placeOf 8 = .ok (.aload_n 0, 1) := by decide +kernel
theorem dX6_placeOf_9 : decode cX6_placeOf 9 = .ok (.getfield 16, 3) := by decide +kernel
theorem dX6_placeOf_12 : decode cX6_placeOf 12 = .ok (.iload_n 1, 1) := by decide +kernel
theorem dX6_placeOf_13 : decode cX6_placeOf 13 = .ok (.iaload, 1) := by decide +kernel
theorem dX6_placeOf_14 : decode cX6_placeOf 14 = .ok (.imul, 1) := by decide +kernel
theorem dX6_placeOf_15 : decode cX6_placeOf 15 = .ok (.iload_n 2, 1) := by decide +kernel
theorem dX6_placeOf_16 : decode cX6_placeOf 16 = .ok (.iadd, 1) := by decide +kernel
theorem dX6_placeOf_17 : decode cX6_placeOf 17 = .ok (.iaload, 1) := by decide +kernel
theorem dX6_placeOf_18 : decode cX6_placeOf 18 = .ok (.iload_n 1, 1) := by decide +kernel
theorem dX6_placeOf_19 : decode cX6_placeOf 19 = .ok (.if_icmp .eq 9, 3) := by decide +kernel
theorem dX6_placeOf_22 : decode cX6_placeOf 22 = .ok (.iinc 2 1, 3) := by decide +kernel
theorem dX6_placeOf_25 : decode cX6_placeOf 25 = .ok (.goto (-23), 3) := by decide +kernel
theorem dX6_placeOf_28 : decode cX6_placeOf 28 = .ok (.iload_n 2, 1) := by decide +kernel
theorem dX6_placeOf_29 : decode cX6_placeOf 29 = .ok (.ireturn, 1) := by decide +kernel
theorem dX6_lastOf_0 : decode cX6_lastOf 0 = .ok (.aload_n 0, 1) := by decide +kernel
theorem dX6_lastOf_1 : decode cX6_lastOf 1 = .ok (.getfield 43, 3) := by decide +kernel
theorem dX6_lastOf_4 : decode cX6_lastOf 4 = .ok (.bipush 60, 2) := by decide +kernel
theorem dX6_lastOf_6 : decode cX6_lastOf 6 = .ok (.iload_n 1, 1) := by decide +kernel
theorem dX6_lastOf_7 : decode cX6_lastOf 7 = .ok (.imul, 1) := by decide +kernel
theorem dX6_lastOf_8 : decode cX6_lastOf 8 = .ok (.aload_n 0, 1) := by decide +kernel
theorem dX6_lastOf_9 : decode cX6_lastOf 9 = .ok (.getfield 49, 3) := by decide +kernel
theorem dX6_lastOf_12 : decode cX6_lastOf 12 = .ok (.iload_n 1, 1) := by decide +kernel
theorem dX6_lastOf_13 : decode cX6_lastOf 13 = .ok (.iaload, 1) := by decide +kernel
theorem dX6_lastOf_14 : decode cX6_lastOf 14 = .ok (.iadd, 1) := by decide +kernel
theorem dX6_lastOf_15 : decode cX6_lastOf 15 = .ok (.iconst 1, 1) := by decide +kernel
theorem dX6_lastOf_16 : decode cX6_lastOf 16 = .ok (.isub, 1) := by decide +kernel
theorem dX6_lastOf_17 : decode cX6_lastOf 17 = .ok (.iaload, 1) := by decide +kernel
theorem dX6_lastOf_18 : decode cX6_lastOf 18 = .ok (.ireturn, 1) := by decide +kernel
theorem dX6_adds_0 : decode cX6_adds 0 = .ok (.aload_n 0, 1) := by decide +kernel
theorem dX6_adds_1 : decode cX6_adds 1 = .ok (.getfield 49, 3) := by decide +kernel
theorem dX6_adds_4 : decode cX6_adds 4 = .ok (.iload_n 1, 1) := by decide +kernel
theorem dX6_adds_5 : decode cX6_adds 5 = .ok (.iaload, 1) := by decide +kernel
theorem dX6_adds_6 : decode cX6_adds 6 = .ok (.ifCond .le 22, 3) := by decide +kernel
theorem dX6_adds_9 : decode cX6_adds 9 = .ok (.aload_n 0, 1) := by decide +kernel
theorem dX6_adds_10 : decode cX6_adds 10 = .ok (.getfield 46, 3) := by decide +kernel
theorem dX6_adds_13 : decode cX6_adds 13 = .ok (.bipush 60, 2) := by decide +kernel
theorem dX6_adds_15 : decode cX6_adds 15 = .ok (.iload_n 1, 1) := by decide +kernel
theorem dX6_adds_16 : decode cX6_adds 16 = .ok (.imul, 1) := by decide +kernel
theorem dX6_adds_17 : decode cX6_adds 17 = .ok (.aload_n 0, 1) := by decide +kernel
theorem dX6_adds_18 : decode cX6_adds 18 = .ok (.getfield 49, 3) := by decide +kernel
theorem dX6_adds_21 : decode cX6_adds 21 = .ok (.iload_n 1, 1) := by decide +kernel
theorem dX6_adds_22 : decode cX6_adds 22 = .ok (.iaload, 1) := by decide +kernel
theorem dX6_adds_23 : decode cX6_adds 23 = .ok (.iadd, 1) := by decide +kernel
theorem dX6_adds_24 : decode cX6_adds 24 = .ok (.iconst 1, 1) := by decide +kernel
theorem dX6_adds_25 : decode cX6_adds 25 = .ok (.isub, 1) := by decide +kernel
theorem dX6_adds_26 : decode cX6_adds 26 = .ok (.iload_n 3, 1) := by decide +kernel
theorem dX6_adds_27 : decode cX6_adds 27 = .ok (.iastore, 1) := by decide +kernel
theorem dX6_adds_28 : decode cX6_adds 28 = .ok (.aload_n 0, 1) := by decide +kernel
theorem dX6_adds_29 : decode cX6_adds 29 = .ok (.getfield 43, 3) := by decide +kernel
theorem dX6_adds_32 : decode cX6_adds 32 = .ok (.bipush 60, 2) := by decide +kernel
theorem dX6_adds_34 : decode cX6_adds 34 = .ok (.iload_n 1, 1) := by decide +kernel
theorem dX6_adds_35 : decode cX6_adds 35 = .ok (.imul, 1) := by decide +kernel
theorem dX6_adds_36 : decode cX6_adds 36 = .ok (.aload_n 0, 1) := by decide +kernel
theorem dX6_adds_37 : decode cX6_adds 37 = .ok (.getfield 49, 3) := by decide +kernel
theorem dX6_adds_40 : decode cX6_adds 40 = .ok (.iload_n 1, 1) := by decide +kernel
theorem dX6_adds_41 : decode cX6_adds 41 = .ok (.iaload, 1) := by decide +kernel
theorem dX6_adds_42 : decode cX6_adds 42 = .ok (.iadd, 1) := by decide +kernel
theorem dX6_adds_43 : decode cX6_adds 43 = .ok (.iload_n 2, 1) := by decide +kernel
theorem dX6_adds_44 : decode cX6_adds 44 = .ok (.iastore, 1) := by decide +kernel
theorem dX6_adds_45 : decode cX6_adds 45 = .ok (.aload_n 0, 1) := by decide +kernel
theorem dX6_adds_46 : decode cX6_adds 46 = .ok (.getfield 49, 3) := by decide +kernel
theorem dX6_adds_49 : decode cX6_adds 49 = .ok (.iload_n 1, 1) := by decide +kernel
theorem dX6_adds_50 : decode cX6_adds 50 = .ok (.dup2, 1) := by decide +kernel
theorem dX6_adds_51 : decode cX6_adds 51 = .ok (.iaload, 1) := by decide +kernel
theorem dX6_adds_52 : decode cX6_adds 52 = .ok (.iconst 1, 1) := by decide +kernel
theorem dX6_adds_53 : decode cX6_adds 53 = .ok (.iadd, 1) := by decide +kernel
theorem dX6_adds_54 : decode cX6_adds 54 = .ok (.iastore, 1) := by decide +kernel
theorem dX6_adds_55 : decode cX6_adds 55 = .ok (.aload_n 0, 1) := by decide +kernel
theorem dX6_adds_56 : decode cX6_adds 56 = .ok (.getfield 25, 3) := by decide +kernel
theorem dX6_adds_59 : decode cX6_adds 59 = .ok (.iload_n 2, 1) := by decide +kernel
theorem dX6_adds_60 : decode cX6_adds 60 = .ok (.iload_n 1, 1) := by decide +kernel
theorem dX6_adds_61 : decode cX6_adds 61 = .ok (.iastore, 1) := by decide +kernel
theorem dX6_adds_62 : decode cX6_adds 62 = .ok (.return_, 1) := by decide +kernel
theorem dX6_put_0 : decode cX6_put 0 = .ok (.aload_n 0, 1) := by decide +kernel
theorem dX6_put_1 : decode cX6_put 1 = .ok (.iload_n 1, 1) := by decide +kernel
theorem dX6_put_2 : decode cX6_put 2 = .ok (.invokevirtual 118, 3) := by decide +kernel
theorem dX6_put_5 : decode cX6_put 5 = .ok (.ifCond .eq 15, 3) := by decide +kernel
theorem dX6_put_8 : decode cX6_put 8 = .ok (.aload_n 0, 1) := by decide +kernel
theorem dX6_put_9 : decode cX6_put 9 = .ok (.iload_n 2, 1) := by decide +kernel
theorem dX6_put_10 : decode cX6_put 10 = .ok (.invokevirtual 121, 3) := by decide +kernel
theorem dX6_put_13 : decode cX6_put 13 = .ok (.ifCond .eq 7, 3) := by decide +kernel
theorem dX6_put_16 : decode cX6_put 16 = .ok (.iconst 1, 1) := by decide +kernel
theorem dX6_put_17 : decode cX6_put 17 = .ok (.goto 4, 3) := by decide +kernel
theorem dX6_put_20 : decode cX6_put 20 = .ok (.iconst 0, 1) := by decide +kernel
theorem dX6_put_21 : decode cX6_put 21 = .ok (.istore_n 3, 1) := by decide +kernel
theorem dX6_put_22 : decode cX6_put 22 = .ok (.iload_n 3, 1) := by decide +kernel
theorem dX6_put_23 : decode cX6_put 23 = .ok (.ifCond .eq 22, 3) := by decide +kernel
theorem dX6_put_26 : decode cX6_put 26 = .ok (.aload_n 0, 1) := by decide +kernel
theorem dX6_put_27 : decode cX6_put 27 = .ok (.getfield 16, 3) := by decide +kernel
theorem dX6_put_30 : decode cX6_put 30 = .ok (.iload_n 2, 1) := by decide +kernel
theorem dX6_put_31 : decode cX6_put 31 = .ok (.iaload, 1) := by decide +kernel
theorem dX6_put_32 : decode cX6_put 32 = .ok (.aload_n 0, 1) := by decide +kernel
theorem dX6_put_33 : decode cX6_put 33 = .ok (.getfield 40, 3) := by decide +kernel
theorem dX6_put_36 : decode cX6_put 36 = .ok (.iload_n 1, 1) := by decide +kernel
theorem dX6_put_37 : decode cX6_put 37 = .ok (.iaload, 1) := by decide +kernel
theorem dX6_put_38 : decode cX6_put 38 = .ok (.if_icmp .ne 7, 3) := by decide +kernel
theorem dX6_put_41 : decode cX6_put 41 = .ok (.iconst 1, 1) := by decide +kernel
theorem dX6_put_42 : decode cX6_put 42 = .ok (.goto 4, 3) := by decide +kernel
theorem dX6_put_45 : decode cX6_put 45 = .ok (.iconst 0, 1) := by decide +kernel
theorem dX6_put_46 : decode cX6_put 46 = .ok (.istore 4, 2) := by decide +kernel
theorem dX6_put_48 : decode cX6_put 48 = .ok (.iload 4, 2) := by decide +kernel
theorem dX6_put_50 : decode cX6_put 50 = .ok (.ifCond .eq 56, 3) := by decide +kernel
theorem dX6_put_53 : decode cX6_put 53 = .ok (.aload_n 0, 1) := by decide +kernel
theorem dX6_put_54 : decode cX6_put 54 = .ok (.getfield 25, 3) := by decide +kernel
theorem dX6_put_57 : decode cX6_put 57 = .ok (.iload_n 2, 1) := by decide +kernel
theorem dX6_put_58 : decode cX6_put 58 = .ok (.iaload, 1) := by decide +kernel
theorem dX6_put_59 : decode cX6_put 59 = .ok (.iconst (-1), 1) := by decide +kernel
theorem dX6_put_60 : decode cX6_put 60 = .ok (.if_icmp .ne 42, 3) := by decide +kernel
theorem dX6_put_63 : decode cX6_put 63 = .ok (.aload_n 0, 1) := by decide +kernel
theorem dX6_put_64 : decode cX6_put 64 = .ok (.getfield 49, 3) := by decide +kernel
theorem dX6_put_67 : decode cX6_put 67 = .ok (.iload_n 1, 1) := by decide +kernel
theorem dX6_put_68 : decode cX6_put 68 = .ok (.iaload, 1) := by decide +kernel
theorem dX6_put_69 : decode cX6_put 69 = .ok (.ifCond .le 20, 3) := by decide +kernel
theorem dX6_put_72 : decode cX6_put 72 = .ok (.aload_n 0, 1) := by decide +kernel
theorem dX6_put_73 : decode cX6_put 73 = .ok (.iload_n 2, 1) := by decide +kernel
theorem dX6_put_74 : decode cX6_put 74 = .ok (.invokevirtual 124, 3) := by decide +kernel
theorem dX6_put_77 : decode cX6_put 77 = .ok (.aload_n 0, 1) := by decide +kernel
theorem dX6_put_78 : decode cX6_put 78 = .ok (.aload_n 0, 1) := by decide +kernel
theorem dX6_put_79 : decode cX6_put 79 = .ok (.iload_n 1, 1) := by decide +kernel
theorem dX6_put_80 : decode cX6_put 80 = .ok (.invokevirtual 128, 3) := by decide +kernel
theorem dX6_put_83 : decode cX6_put 83 = .ok (.invokevirtual 124, 3) := by decide +kernel
theorem dX6_put_86 : decode cX6_put 86 = .ok (.if_icmp .lt 16, 3) := by decide +kernel
theorem dX6_put_89 : decode cX6_put 89 = .ok (.aload_n 0, 1) := by decide +kernel
theorem dX6_put_90 : decode cX6_put 90 = .ok (.aload_n 0, 1) := by decide +kernel
theorem dX6_put_91 : decode cX6_put 91 = .ok (.getfield 16, 3) := by decide +kernel
theorem dX6_put_94 : decode cX6_put 94 = .ok (.iload_n 2, 1) := by decide +kernel
theorem dX6_put_95 : decode cX6_put 95 = .ok (.iaload, 1) := by decide +kernel
theorem dX6_put_96 : decode cX6_put 96 = .ok (.invokevirtual 131, 3) := by decide +kernel
theorem dX6_put_99 : decode cX6_put 99 = .ok (.ifCond .eq 7, 3) := by decide +kernel
theorem dX6_put_102 : decode cX6_put 102 = .ok (.iconst 1, 1) := by decide +kernel
theorem dX6_put_103 : decode cX6_put 103 = .ok (.goto 4, 3) := by decide +kernel
theorem dX6_put_106 : decode cX6_put 106 = .ok (.iconst 0, 1) := by decide +kernel
theorem dX6_put_107 : decode cX6_put 107 = .ok (.istore 5, 2) := by decide +kernel
theorem dX6_put_109 : decode cX6_put 109 = .ok (.aload_n 0, 1) := by decide +kernel
theorem dX6_put_110 : decode cX6_put 110 = .ok (.iload_n 3, 1) := by decide +kernel
theorem dX6_put_111 : decode cX6_put 111 = .ok (.ifCond .ne 7, 3) := by decide +kernel
theorem dX6_put_114 : decode cX6_put 114 = .ok (.iconst 1, 1) := by decide +kernel
theorem dX6_put_115 : decode cX6_put 115 = .ok (.goto 22, 3) := by decide +kernel
theorem dX6_put_118 : decode cX6_put 118 = .ok (.iload 4, 2) := by decide +kernel
theorem dX6_put_120 : decode cX6_put 120 = .ok (.ifCond .ne 7, 3) := by decide +kernel
theorem dX6_put_123 : decode cX6_put 123 = .ok (.iconst 2, 1) := by decide +kernel
theorem dX6_put_124 : decode cX6_put 124 = .ok (.goto 13, 3) := by decide +kernel
theorem dX6_put_127 : decode cX6_put 127 = .ok (.iload 5, 2) := by decide +kernel
theorem dX6_put_129 : decode cX6_put 129 = .ok (.ifCond .eq 7, 3) := by decide +kernel
theorem dX6_put_132 : decode cX6_put 132 = .ok (.iconst 3, 1) := by decide +kernel
theorem dX6_put_133 : decode cX6_put 133 = .ok (.goto 4, 3) := by decide +kernel
theorem dX6_put_136 : decode cX6_put 136 = .ok (.iconst 0, 1) := by decide +kernel
theorem dX6_put_137 : decode cX6_put 137 = .ok (.invokevirtual 103, 3) := by decide +kernel
theorem dX6_put_140 : decode cX6_put 140 = .ok (.ifCond .ne 5, 3) := by decide +kernel
theorem dX6_put_143 : decode cX6_put 143 = .ok (.iconst 0, 1) := by decide +kernel
theorem dX6_put_144 : decode cX6_put 144 = .ok (.ireturn, 1) := by decide +kernel
theorem dX6_put_145 : decode cX6_put 145 = .ok (.aload_n 0, 1) := by decide +kernel
theorem dX6_put_146 : decode cX6_put 146 = .ok (.iload_n 1, 1) := by decide +kernel
theorem dX6_put_147 : decode cX6_put 147 = .ok (.iload_n 2, 1) := by decide +kernel
theorem dX6_put_148 : decode cX6_put 148 = .ok (.iconst 0, 1) := by decide +kernel
theorem dX6_put_149 : decode cX6_put 149 = .ok (.invokevirtual 134, 3) := by decide +kernel
theorem dX6_put_152 : decode cX6_put 152 = .ok (.aload_n 0, 1) := by decide +kernel
theorem dX6_put_153 : decode cX6_put 153 = .ok (.getfield 49, 3) := by decide +kernel
theorem dX6_put_156 : decode cX6_put 156 = .ok (.iload_n 1, 1) := by decide +kernel
theorem dX6_put_157 : decode cX6_put 157 = .ok (.iaload, 1) := by decide +kernel
theorem dX6_put_158 : decode cX6_put 158 = .ok (.ireturn, 1) := by decide +kernel
theorem dX6_found_0 : decode cX6_found 0 = .ok (.aload_n 0, 1) := by decide +kernel
theorem dX6_found_1 : decode cX6_found 1 = .ok (.iload_n 1, 1) := by decide +kernel
theorem dX6_found_2 : decode cX6_found 2 = .ok (.invokevirtual 107, 3) := by decide +kernel
theorem dX6_found_5 : decode cX6_found 5 = .ok (.ifCond .eq 21, 3) := by decide +kernel
theorem dX6_found_8 : decode cX6_found 8 = .ok (.iload_n 2, 1) := by decide +kernel
theorem dX6_found_9 : decode cX6_found 9 = .ok (.iconst 0, 1) := by decide +kernel
theorem dX6_found_10 : decode cX6_found 10 = .ok (.aload_n 0, 1) := by decide +kernel
theorem dX6_found_11 : decode cX6_found 11 = .ok (.getfield 13, 3) := by decide +kernel
theorem dX6_found_14 : decode cX6_found 14 = .ok (.iload_n 1, 1) := by decide +kernel
theorem dX6_found_15 : decode cX6_found 15 = .ok (.iaload, 1) := by decide +kernel
theorem dX6_found_16 : decode cX6_found 16 = .ok (.invokestatic 87, 3) := by decide +kernel
theorem dX6_found_19 : decode cX6_found 19 = .ok (.ifCond .eq 7, 3) := by decide +kernel
theorem dX6_found_22 : decode cX6_found 22 = .ok (.iconst 1, 1) := by decide +kernel
theorem dX6_found_23 : decode cX6_found 23 = .ok (.goto 4, 3) := by decide +kernel
theorem dX6_found_26 : decode cX6_found 26 = .ok (.iconst 0, 1) := by decide +kernel
theorem dX6_found_27 : decode cX6_found 27 = .ok (.istore 5, 2) := by decide +kernel
theorem dX6_found_29 : decode cX6_found 29 = .ok (.iload_n 3, 1) := by decide +kernel
theorem dX6_found_30 : decode cX6_found 30 = .ok (.iload 4, 2) := by decide +kernel
theorem dX6_found_32 : decode cX6_found 32 = .ok (.invokestatic 110, 3) := by decide +kernel
theorem dX6_found_35 : decode cX6_found 35 = .ok (.istore 6, 2) := by decide +kernel
theorem dX6_found_37 : decode cX6_found 37 = .ok (.aload_n 0, 1) := by decide +kernel
theorem dX6_found_38 : decode cX6_found 38 = .ok (.iload 5, 2) := by decide +kernel
theorem dX6_found_40 : decode cX6_found 40 = .ok (.ifCond .ne 7, 3) := by decide +kernel
theorem dX6_found_43 : decode cX6_found 43 = .ok (.iconst 1, 1) := by decide +kernel
theorem dX6_found_44 : decode cX6_found 44 = .ok (.goto 47, 3) := by decide +kernel
theorem dX6_found_47 : decode cX6_found 47 = .ok (.iload 6, 2) := by decide +kernel
theorem dX6_found_49 : decode cX6_found 49 = .ok (.ifCond .ne 7, 3) := by decide +kernel
theorem dX6_found_52 : decode cX6_found 52 = .ok (.iconst 2, 1) := by decide +kernel
theorem dX6_found_53 : decode cX6_found 53 = .ok (.goto 38, 3) := by decide +kernel
theorem dX6_found_56 : decode cX6_found 56 = .ok (.aload_n 0, 1) := by decide +kernel
theorem dX6_found_57 : decode cX6_found 57 = .ok (.iload_n 1, 1) := by decide +kernel
theorem dX6_found_58 : decode cX6_found 58 = .ok (.invokevirtual 131, 3) := by decide +kernel
theorem dX6_found_61 : decode cX6_found 61 = .ok (.ifCond .eq 7, 3) := by decide +kernel
theorem dX6_found_64 : decode cX6_found 64 = .ok (.iconst 3, 1) := by decide +kernel
theorem dX6_found_65 : decode cX6_found 65 = .ok (.goto 26, 3) := by decide +kernel
theorem dX6_found_68 : decode cX6_found 68 = .ok (.aload_n 0, 1) := by decide +kernel
theorem dX6_found_69 : decode cX6_found 69 = .ok (.getfield 91, 3) := by decide +kernel
theorem dX6_found_72 : decode cX6_found 72 = .ok (.bipush 60, 2) := by decide +kernel
theorem dX6_found_74 : decode cX6_found 74 = .ok (.if_icmp .eq 12, 3) := by decide +kernel
theorem dX6_found_77 : decode cX6_found 77 = .ok (.aload_n 0, 1) := by decide +kernel
theorem dX6_found_78 : decode cX6_found 78 = .ok (.getfield 94, 3) := by decide +kernel
theorem dX6_found_81 : decode cX6_found 81 = .ok (.bipush 24, 2) := by decide +kernel
theorem dX6_found_83 : decode cX6_found 83 = .ok (.if_icmp .ne 7, 3) := by decide +kernel
theorem dX6_found_86 : decode cX6_found 86 = .ok (.iconst 4, 1) := by decide +kernel
theorem dX6_found_87 : decode cX6_found 87 = .ok (.goto 4, 3) := by decide +kernel
theorem dX6_found_90 : decode cX6_found 90 = .ok (.iconst 0, 1) := by decide +kernel
theorem dX6_found_91 : decode cX6_found 91 = .ok (.invokevirtual 103, 3) := by decide +kernel
theorem dX6_found_94 : decode cX6_found 94 = .ok (.ifCond .ne 5, 3) := by decide +kernel
theorem dX6_found_97 : decode cX6_found 97 = .ok (.iconst 0, 1) := by decide +kernel
theorem dX6_found_98 : decode cX6_found 98 = .ok (.ireturn, 1) := by decide +kernel
theorem dX6_found_99 : decode cX6_found 99 = .ok (.aload_n 0, 1) := by decide +kernel
theorem dX6_found_100 : decode cX6_found 100 = .ok (.iload_n 1, 1) := by decide +kernel
theorem dX6_found_101 : decode cX6_found 101 = .ok (.iload_n 2, 1) := by decide +kernel
theorem dX6_found_102 : decode cX6_found 102 = .ok (.iload_n 3, 1) := by decide +kernel
theorem dX6_found_103 : decode cX6_found 103 = .ok (.iload 4, 2) := by decide +kernel
theorem dX6_found_105 : decode cX6_found 105 = .ok (.invokevirtual 114, 3) := by decide +kernel
theorem dX6_found_108 : decode cX6_found 108 = .ok (.istore 7, 2) := by decide +kernel
theorem dX6_found_110 : decode cX6_found 110 = .ok (.aload_n 0, 1) := by decide +kernel
theorem dX6_found_111 : decode cX6_found 111 = .ok (.getfield 40, 3) := by decide +kernel
theorem dX6_found_114 : decode cX6_found 114 = .ok (.aload_n 0, 1) := by decide +kernel
theorem dX6_found_115 : decode cX6_found 115 = .ok (.getfield 94, 3) := by decide +kernel
theorem dX6_found_118 : decode cX6_found 118 = .ok (.iload_n 1, 1) := by decide +kernel
theorem dX6_found_119 : decode cX6_found 119 = .ok (.iastore, 1) := by decide +kernel
theorem dX6_found_120 : decode cX6_found 120 = .ok (.aload_n 0, 1) := by decide +kernel
theorem dX6_found_121 : decode cX6_found 121 = .ok (.dup, 1) := by decide +kernel
theorem dX6_found_122 : decode cX6_found 122 = .ok (.getfield 94, 3) := by decide +kernel
theorem dX6_found_125 : decode cX6_found 125 = .ok (.iconst 1, 1) := by decide +kernel
theorem dX6_found_126 : decode cX6_found 126 = .ok (.iadd, 1) := by decide +kernel
theorem dX6_found_127 : decode cX6_found 127 = .ok (.putfield 94, 3) := by decide +kernel
theorem dX6_found_130 : decode cX6_found 130 = .ok (.aload_n 0, 1) := by decide +kernel
theorem dX6_found_131 : decode cX6_found 131 = .ok (.aload_n 0, 1) := by decide +kernel
theorem dX6_found_132 : decode cX6_found 132 = .ok (.getfield 94, 3) := by decide +kernel
theorem dX6_found_135 : decode cX6_found 135 = .ok (.iconst 1, 1) := by decide +kernel
theorem dX6_found_136 : decode cX6_found 136 = .ok (.isub, 1) := by decide +kernel
theorem dX6_found_137 : decode cX6_found 137 = .ok (.iload 7, 2) := by decide +kernel
theorem dX6_found_139 : decode cX6_found 139 = .ok (.iconst 0, 1) := by decide +kernel
theorem dX6_found_140 : decode cX6_found 140 = .ok (.invokevirtual 134, 3) := by decide +kernel
theorem dX6_found_143 : decode cX6_found 143 = .ok (.aload_n 0, 1) := by decide +kernel
theorem dX6_found_144 : decode cX6_found 144 = .ok (.getfield 94, 3) := by decide +kernel
theorem dX6_found_147 : decode cX6_found 147 = .ok (.iconst 1, 1) := by decide +kernel
theorem dX6_found_148 : decode cX6_found 148 = .ok (.isub, 1) := by decide +kernel
theorem dX6_found_149 : decode cX6_found 149 = .ok (.ireturn, 1) := by decide +kernel
theorem dX6_join_0 : decode cX6_join 0 = .ok (.aload_n 0, 1) := by decide +kernel
theorem dX6_join_1 : decode cX6_join 1 = .ok (.iload_n 1, 1) := by decide +kernel
theorem dX6_join_2 : decode cX6_join 2 = .ok (.invokevirtual 118, 3) := by decide +kernel
theorem dX6_join_5 : decode cX6_join 5 = .ok (.ifCond .eq 15, 3) := by decide +kernel
theorem dX6_join_8 : decode cX6_join 8 = .ok (.aload_n 0, 1) := by decide +kernel
theorem dX6_join_9 : decode cX6_join 9 = .ok (.iload_n 2, 1) := by decide +kernel
theorem dX6_join_10 : decode cX6_join 10 = .ok (.invokevirtual 118, 3) := by decide +kernel
theorem dX6_join_13 : decode cX6_join 13 = .ok (.ifCond .eq 7, 3) := by decide +kernel
theorem dX6_join_16 : decode cX6_join 16 = .ok (.iconst 1, 1) := by decide +kernel
theorem dX6_join_17 : decode cX6_join 17 = .ok (.goto 4, 3) := by decide +kernel
theorem dX6_join_20 : decode cX6_join 20 = .ok (.iconst 0, 1) := by decide +kernel
theorem dX6_join_21 : decode cX6_join 21 = .ok (.istore_n 3, 1) := by decide +kernel
theorem dX6_join_22 : decode cX6_join 22 = .ok (.iload_n 3, 1) := by decide +kernel
theorem dX6_join_23 : decode cX6_join 23 = .ok (.ifCond .eq 27, 3) := by decide +kernel
theorem dX6_join_26 : decode cX6_join 26 = .ok (.iload_n 1, 1) := by decide +kernel
theorem dX6_join_27 : decode cX6_join 27 = .ok (.iload_n 2, 1) := by decide +kernel
theorem dX6_join_28 : decode cX6_join 28 = .ok (.if_icmp .eq 22, 3) := by decide +kernel
theorem dX6_join_31 : decode cX6_join 31 = .ok (.aload_n 0, 1) := by decide +kernel
theorem dX6_join_32 : decode cX6_join 32 = .ok (.getfield 40, 3) := by decide +kernel
theorem dX6_join_35 : decode cX6_join 35 = .ok (.iload_n 1, 1) := by decide +kernel
theorem dX6_join_36 : decode cX6_join 36 = .ok (.iaload, 1) := by decide +kernel
theorem dX6_join_37 : decode cX6_join 37 = .ok (.aload_n 0, 1) := by decide +kernel
theorem dX6_join_38 : decode cX6_join 38 = .ok (.getfield 40, 3) := by decide +kernel
theorem dX6_join_41 : decode cX6_join 41 = .ok (.iload_n 2, 1) := by decide +kernel
theorem dX6_join_42 : decode cX6_join 42 = .ok (.iaload, 1) := by decide +kernel
theorem dX6_join_43 : decode cX6_join 43 = .ok (.if_icmp .ne 7, 3) := by decide +kernel
theorem dX6_join_46 : decode cX6_join 46 = .ok (.iconst 1, 1) := by decide +kernel
theorem dX6_join_47 : decode cX6_join 47 = .ok (.goto 4, 3) := by decide +kernel
theorem dX6_join_50 : decode cX6_join 50 = .ok (.iconst 0, 1) := by decide +kernel
theorem dX6_join_51 : decode cX6_join 51 = .ok (.istore 4, 2) := by decide +kernel
theorem dX6_join_53 : decode cX6_join 53 = .ok (.iload 4, 2) := by decide +kernel
theorem dX6_join_55 : decode cX6_join 55 = .ok (.ifCond .eq 25, 3) := by decide +kernel
theorem dX6_join_58 : decode cX6_join 58 = .ok (.aload_n 0, 1) := by decide +kernel
theorem dX6_join_59 : decode cX6_join 59 = .ok (.getfield 49, 3) := by decide +kernel
theorem dX6_join_62 : decode cX6_join 62 = .ok (.iload_n 1, 1) := by decide +kernel
theorem dX6_join_63 : decode cX6_join 63 = .ok (.iaload, 1) := by decide +kernel
theorem dX6_join_64 : decode cX6_join 64 = .ok (.ifCond .eq 12, 3) := by decide +kernel
theorem dX6_join_67 : decode cX6_join 67 = .ok (.aload_n 0, 1) := by decide +kernel
theorem dX6_join_68 : decode cX6_join 68 = .ok (.getfield 49, 3) := by decide +kernel
theorem dX6_join_71 : decode cX6_join 71 = .ok (.iload_n 2, 1) := by decide +kernel
theorem dX6_join_72 : decode cX6_join 72 = .ok (.iaload, 1) := by decide +kernel
theorem dX6_join_73 : decode cX6_join 73 = .ok (.ifCond .ne 7, 3) := by decide +kernel
theorem dX6_join_76 : decode cX6_join 76 = .ok (.iconst 1, 1) := by decide +kernel
theorem dX6_join_77 : decode cX6_join 77 = .ok (.goto 4, 3) := by decide +kernel
theorem dX6_join_80 : decode cX6_join 80 = .ok (.iconst 0, 1) := by decide +kernel
theorem dX6_join_81 : decode cX6_join 81 = .ok (.istore 5, 2) := by decide +kernel
theorem dX6_join_83 : decode cX6_join 83 = .ok (.iload 4, 2) := by decide +kernel
theorem dX6_join_85 : decode cX6_join 85 = .ok (.ifCond .eq 50, 3) := by decide +kernel
theorem dX6_join_88 : decode cX6_join 88 = .ok (.iload 5, 2) := by decide +kernel
theorem dX6_join_90 : decode cX6_join 90 = .ok (.ifCond .ne 41, 3) := by decide +kernel
theorem dX6_join_93 : decode cX6_join 93 = .ok (.aload_n 0, 1) := by decide +kernel
theorem dX6_join_94 : decode cX6_join 94 = .ok (.aload_n 0, 1) := by decide +kernel
theorem dX6_join_95 : decode cX6_join 95 = .ok (.iload_n 1, 1) := by decide +kernel
theorem dX6_join_96 : decode cX6_join 96 = .ok (.invokevirtual 128, 3) := by decide +kernel
theorem dX6_join_99 : decode cX6_join 99 = .ok (.invokevirtual 124, 3) := by decide +kernel
theorem dX6_join_102 : decode cX6_join 102 = .ok (.aload_n 0, 1) := by decide +kernel
theorem dX6_join_103 : decode cX6_join 103 = .ok (.aload_n 0, 1) := by decide +kernel
theorem dX6_join_104 : decode cX6_join 104 = .ok (.getfield 43, 3) := by decide +kernel
theorem dX6_join_107 : decode cX6_join 107 = .ok (.bipush 60, 2) := by decide +kernel
theorem dX6_join_109 : decode cX6_join 109 = .ok (.iload_n 2, 1) := by decide +kernel
theorem dX6_join_110 : decode cX6_join 110 = .ok (.imul, 1) := by decide +kernel
theorem dX6_join_111 : decode cX6_join 111 = .ok (.iaload, 1) := by decide +kernel
theorem dX6_join_112 : decode cX6_join 112 = .ok (.invokevirtual 124, 3) := by decide +kernel
theorem dX6_join_115 : decode cX6_join 115 = .ok (.if_icmp .gt 16, 3) := by decide +kernel
theorem dX6_join_118 : decode cX6_join 118 = .ok (.aload_n 0, 1) := by decide +kernel
theorem dX6_join_119 : decode cX6_join 119 = .ok (.aload_n 0, 1) := by decide +kernel
theorem dX6_join_120 : decode cX6_join 120 = .ok (.getfield 40, 3) := by decide +kernel
theorem dX6_join_123 : decode cX6_join 123 = .ok (.iload_n 1, 1) := by decide +kernel
theorem dX6_join_124 : decode cX6_join 124 = .ok (.iaload, 1) := by decide +kernel
theorem dX6_join_125 : decode cX6_join 125 = .ok (.invokevirtual 131, 3) := by decide +kernel
theorem dX6_join_128 : decode cX6_join 128 = .ok (.ifCond .eq 7, 3) := by decide +kernel
theorem dX6_join_131 : decode cX6_join 131 = .ok (.iconst 1, 1) := by decide +kernel
theorem dX6_join_132 : decode cX6_join 132 = .ok (.goto 4, 3) := by decide +kernel
theorem dX6_join_135 : decode cX6_join 135 = .ok (.iconst 0, 1) := by decide +kernel
theorem dX6_join_136 : decode cX6_join 136 = .ok (.istore 6, 2) := by decide +kernel
theorem dX6_join_138 : decode cX6_join 138 = .ok (.aload_n 0, 1) := by decide +kernel
theorem dX6_join_139 : decode cX6_join 139 = .ok (.iload_n 3, 1) := by decide +kernel
theorem dX6_join_140 : decode cX6_join 140 = .ok (.ifCond .ne 7, 3) := by decide +kernel
theorem dX6_join_143 : decode cX6_join 143 = .ok (.iconst 1, 1) := by decide +kernel
theorem dX6_join_144 : decode cX6_join 144 = .ok (.goto 22, 3) := by decide +kernel
theorem dX6_join_147 : decode cX6_join 147 = .ok (.iload 4, 2) := by decide +kernel
theorem dX6_join_149 : decode cX6_join 149 = .ok (.ifCond .ne 7, 3) := by decide +kernel
theorem dX6_join_152 : decode cX6_join 152 = .ok (.iconst 2, 1) := by decide +kernel
theorem dX6_join_153 : decode cX6_join 153 = .ok (.goto 13, 3) := by decide +kernel
theorem dX6_join_156 : decode cX6_join 156 = .ok (.iload 6, 2) := by decide +kernel
theorem dX6_join_158 : decode cX6_join 158 = .ok (.ifCond .eq 7, 3) := by decide +kernel
theorem dX6_join_161 : decode cX6_join 161 = .ok (.iconst 3, 1) := by decide +kernel
theorem dX6_join_162 : decode cX6_join 162 = .ok (.goto 4, 3) := by decide +kernel
theorem dX6_join_165 : decode cX6_join 165 = .ok (.iconst 0, 1) := by decide +kernel
theorem dX6_join_166 : decode cX6_join 166 = .ok (.invokevirtual 103, 3) := by decide +kernel
theorem dX6_join_169 : decode cX6_join 169 = .ok (.ifCond .ne 5, 3) := by decide +kernel
theorem dX6_join_172 : decode cX6_join 172 = .ok (.iconst 0, 1) := by decide +kernel
theorem dX6_join_173 : decode cX6_join 173 = .ok (.ireturn, 1) := by decide +kernel
theorem dX6_join_174 : decode cX6_join 174 = .ok (.aload_n 0, 1) := by decide +kernel
theorem dX6_join_175 : decode cX6_join 175 = .ok (.getfield 49, 3) := by decide +kernel
theorem dX6_join_178 : decode cX6_join 178 = .ok (.iload_n 2, 1) := by decide +kernel
theorem dX6_join_179 : decode cX6_join 179 = .ok (.iaload, 1) := by decide +kernel
theorem dX6_join_180 : decode cX6_join 180 = .ok (.istore 7, 2) := by decide +kernel
theorem dX6_join_182 : decode cX6_join 182 = .ok (.aload_n 0, 1) := by decide +kernel
theorem dX6_join_183 : decode cX6_join 183 = .ok (.getfield 49, 3) := by decide +kernel
theorem dX6_join_186 : decode cX6_join 186 = .ok (.iload_n 2, 1) := by decide +kernel
theorem dX6_join_187 : decode cX6_join 187 = .ok (.iconst 0, 1) := by decide +kernel
theorem dX6_join_188 : decode cX6_join 188 = .ok (.iastore, 1) := by decide +kernel
theorem dX6_join_189 : decode cX6_join 189 = .ok (.iconst 0, 1) := by decide +kernel
theorem dX6_join_190 : decode cX6_join 190 = .ok (.istore 8, 2) := by decide +kernel
theorem dX6_join_192 : decode cX6_join 192 = .ok (.iload 8, 2) := by decide +kernel
theorem dX6_join_194 : decode cX6_join 194 = .ok (.iload 7, 2) := by decide +kernel
theorem dX6_join_196 : decode cX6_join 196 = .ok (.if_icmp .ge 49, 3) := by decide +kernel
theorem dX6_join_199 : decode cX6_join 199 = .ok (.aload_n 0, 1) := by decide +kernel
theorem dX6_join_200 : decode cX6_join 200 = .ok (.iload_n 1, 1) := by decide +kernel
theorem dX6_join_201 : decode cX6_join 201 = .ok (.aload_n 0, 1) := by decide +kernel
theorem dX6_join_202 : decode cX6_join 202 = .ok (.getfield 43, 3) := by decide +kernel
theorem dX6_join_205 : decode cX6_join 205 = .ok (.bipush 60, 2) := by decide +kernel
theorem dX6_join_207 : decode cX6_join 207 = .ok (.iload_n 2, 1) := by decide +kernel
theorem dX6_join_208 : decode cX6_join 208 = .ok (.imul, 1) := by decide +kernel
theorem dX6_join_209 : decode cX6_join 209 = .ok (.iload 8, 2) := by decide +kernel
theorem dX6_join_211 : decode cX6_join 211 = .ok (.iadd, 1) := by decide +kernel
theorem dX6_join_212 : decode cX6_join 212 = .ok (.iaload, 1) := by decide +kernel
theorem dX6_join_213 : decode cX6_join 213 = .ok (.iload 8, 2) := by decide +kernel
theorem dX6_join_215 : decode cX6_join 215 = .ok (.ifCond .ne 7, 3) := by decide +kernel
theorem dX6_join_218 : decode cX6_join 218 = .ok (.iconst 0, 1) := by decide +kernel
theorem dX6_join_219 : decode cX6_join 219 = .ok (.goto 17, 3) := by decide +kernel
theorem dX6_join_222 : decode cX6_join 222 = .ok (.aload_n 0, 1) := by decide +kernel
theorem dX6_join_223 : decode cX6_join 223 = .ok (.getfield 46, 3) := by decide +kernel
theorem dX6_join_226 : decode cX6_join 226 = .ok (.bipush 60, 2) := by decide +kernel
theorem dX6_join_228 : decode cX6_join 228 = .ok (.iload_n 2, 1) := by decide +kernel
theorem dX6_join_229 : decode cX6_join 229 = .ok (.imul, 1) := by decide +kernel
theorem dX6_join_230 : decode cX6_join 230 = .ok (.iload 8, 2) := by decide +kernel
theorem dX6_join_232 : decode cX6_join 232 = .ok (.iadd, 1) := by decide +kernel
theorem dX6_join_233 : decode cX6_join 233 = .ok (.iconst 1, 1) := by decide +kernel
theorem dX6_join_234 : decode cX6_join 234 = .ok (.isub, 1) := by decide +kernel
theorem dX6_join_235 : decode cX6_join 235 = .ok (.iaload, 1) := by decide +kernel
theorem dX6_join_236 : decode cX6_join 236 = .ok (.invokevirtual 134, 3) := by decide +kernel
theorem dX6_join_239 : decode cX6_join 239 = .ok (.iinc 8 1, 3) := by decide +kernel
theorem dX6_join_242 : decode cX6_join 242 = .ok (.goto (-50), 3) := by decide +kernel
theorem dX6_join_245 : decode cX6_join 245 = .ok (.aload_n 0, 1) := by decide +kernel
theorem dX6_join_246 : decode cX6_join 246 = .ok (.getfield 49, 3) := by decide +kernel
theorem dX6_join_249 : decode cX6_join 249 = .ok (.iload_n 1, 1) := by decide +kernel
theorem dX6_join_250 : decode cX6_join 250 = .ok (.iaload, 1) := by decide +kernel
theorem dX6_join_251 : decode cX6_join 251 = .ok (.ireturn, 1) := by decide +kernel
theorem dX6_shots_0 : decode cX6_shots 0 = .ok (.aload_n 0, 1) := by decide +kernel
theorem dX6_shots_1 : decode cX6_shots 1 = .ok (.aload_n 0, 1) := by decide +kernel
theorem dX6_shots_2 : decode cX6_shots 2 = .ok (.iload_n 1, 1) := by decide +kernel
theorem dX6_shots_3 : decode cX6_shots 3 = .ok (.invokevirtual 107, 3) := by decide +kernel
theorem dX6_shots_6 : decode cX6_shots 6 = .ok (.ifCond .eq 7, 3) := by decide +kernel
theorem dX6_shots_9 : decode cX6_shots 9 = .ok (.iconst 0, 1) := by decide +kernel
theorem dX6_shots_10 : decode cX6_shots 10 = .ok (.goto 4, 3) := by decide +kernel
theorem dX6_shots_13 : decode cX6_shots 13 = .ok (.iconst 1, 1) := by decide +kernel
theorem dX6_shots_14 : decode cX6_shots 14 = .ok (.invokevirtual 103, 3) := by decide +kernel
theorem dX6_shots_17 : decode cX6_shots 17 = .ok (.ifCond .eq 12, 3) := by decide +kernel
theorem dX6_shots_20 : decode cX6_shots 20 = .ok (.aload_n 0, 1) := by decide +kernel
theorem dX6_shots_21 : decode cX6_shots 21 = .ok (.getfield 13, 3) := by decide +kernel
theorem dX6_shots_24 : decode cX6_shots 24 = .ok (.iload_n 1, 1) := by decide +kernel
theorem dX6_shots_25 : decode cX6_shots 25 = .ok (.iaload, 1) := by decide +kernel
theorem dX6_shots_26 : decode cX6_shots 26 = .ok (.goto 4, 3) := by decide +kernel
theorem dX6_shots_29 : decode cX6_shots 29 = .ok (.iconst 0, 1) := by decide +kernel
theorem dX6_shots_30 : decode cX6_shots 30 = .ok (.ireturn, 1) := by decide +kernel
theorem dX6_shotOf_0 : decode cX6_shotOf 0 = .ok (.aload_n 0, 1) := by decide +kernel
theorem dX6_shotOf_1 : decode cX6_shotOf 1 = .ok (.iload_n 1, 1) := by decide +kernel
theorem dX6_shotOf_2 : decode cX6_shotOf 2 = .ok (.invokevirtual 107, 3) := by decide +kernel
theorem dX6_shotOf_5 : decode cX6_shotOf 5 = .ok (.ifCond .eq 23, 3) := by decide +kernel
theorem dX6_shotOf_8 : decode cX6_shotOf 8 = .ok (.iload_n 2, 1) := by decide +kernel
theorem dX6_shotOf_9 : decode cX6_shotOf 9 = .ok (.iconst 0, 1) := by decide +kernel
theorem dX6_shotOf_10 : decode cX6_shotOf 10 = .ok (.aload_n 0, 1) := by decide +kernel
theorem dX6_shotOf_11 : decode cX6_shotOf 11 = .ok (.getfield 13, 3) := by decide +kernel
theorem dX6_shotOf_14 : decode cX6_shotOf 14 = .ok (.iload_n 1, 1) := by decide +kernel
theorem dX6_shotOf_15 : decode cX6_shotOf 15 = .ok (.iaload, 1) := by decide +kernel
theorem dX6_shotOf_16 : decode cX6_shotOf 16 = .ok (.iconst 1, 1) := by decide +kernel
theorem dX6_shotOf_17 : decode cX6_shotOf 17 = .ok (.isub, 1) := by decide +kernel
theorem dX6_shotOf_18 : decode cX6_shotOf 18 = .ok (.invokestatic 87, 3) := by decide +kernel
theorem dX6_shotOf_21 : decode cX6_shotOf 21 = .ok (.ifCond .eq 7, 3) := by decide +kernel
theorem dX6_shotOf_24 : decode cX6_shotOf 24 = .ok (.iconst 1, 1) := by decide +kernel
theorem dX6_shotOf_25 : decode cX6_shotOf 25 = .ok (.goto 4, 3) := by decide +kernel
theorem dX6_shotOf_28 : decode cX6_shotOf 28 = .ok (.iconst 0, 1) := by decide +kernel
theorem dX6_shotOf_29 : decode cX6_shotOf 29 = .ok (.istore_n 3, 1) := by decide +kernel
theorem dX6_shotOf_30 : decode cX6_shotOf 30 = .ok (.aload_n 0, 1) := by decide +kernel
theorem dX6_shotOf_31 : decode cX6_shotOf 31 = .ok (.iload_n 3, 1) := by decide +kernel
theorem dX6_shotOf_32 : decode cX6_shotOf 32 = .ok (.ifCond .eq 7, 3) := by decide +kernel
theorem dX6_shotOf_35 : decode cX6_shotOf 35 = .ok (.iconst 0, 1) := by decide +kernel
theorem dX6_shotOf_36 : decode cX6_shotOf 36 = .ok (.goto 4, 3) := by decide +kernel
theorem dX6_shotOf_39 : decode cX6_shotOf 39 = .ok (.iconst 1, 1) := by decide +kernel
theorem dX6_shotOf_40 : decode cX6_shotOf 40 = .ok (.invokevirtual 103, 3) := by decide +kernel
theorem dX6_shotOf_43 : decode cX6_shotOf 43 = .ok (.ifCond .eq 17, 3) := by decide +kernel
theorem dX6_shotOf_46 : decode cX6_shotOf 46 = .ok (.aload_n 0, 1) := by decide +kernel
theorem dX6_shotOf_47 : decode cX6_shotOf 47 = .ok (.getfield 7, 3) := by decide +kernel
theorem dX6_shotOf_50 : decode cX6_shotOf 50 = .ok (.bipush 60, 2) := by decide +kernel
theorem dX6_shotOf_52 : decode cX6_shotOf 52 = .ok (.iload_n 1, 1) := by decide +kernel
theorem dX6_shotOf_53 : decode cX6_shotOf 53 = .ok (.imul, 1) := by decide +kernel
theorem dX6_shotOf_54 : decode cX6_shotOf 54 = .ok (.iload_n 2, 1) := by decide +kernel
theorem dX6_shotOf_55 : decode cX6_shotOf 55 = .ok (.iadd, 1) := by decide +kernel
theorem dX6_shotOf_56 : decode cX6_shotOf 56 = .ok (.iaload, 1) := by decide +kernel
theorem dX6_shotOf_57 : decode cX6_shotOf 57 = .ok (.goto 4, 3) := by decide +kernel
theorem dX6_shotOf_60 : decode cX6_shotOf 60 = .ok (.iconst 0, 1) := by decide +kernel
theorem dX6_shotOf_61 : decode cX6_shotOf 61 = .ok (.ireturn, 1) := by decide +kernel
theorem dX6_lengthOf_0 : decode cX6_lengthOf 0 = .ok (.aload_n 0, 1) := by decide +kernel
theorem dX6_lengthOf_1 : decode cX6_lengthOf 1 = .ok (.aload_n 0, 1) := by decide +kernel
theorem dX6_lengthOf_2 : decode cX6_lengthOf 2 = .ok (.iload_n 1, 1) := by decide +kernel
theorem dX6_lengthOf_3 : decode cX6_lengthOf 3 = .ok (.invokevirtual 121, 3) := by decide +kernel
theorem dX6_lengthOf_6 : decode cX6_lengthOf 6 = .ok (.ifCond .eq 7, 3) := by decide +kernel
theorem dX6_lengthOf_9 : decode cX6_lengthOf 9 = .ok (.iconst 0, 1) := by decide +kernel
theorem dX6_lengthOf_10 : decode cX6_lengthOf 10 = .ok (.goto 4, 3) := by decide +kernel
theorem dX6_lengthOf_13 : decode cX6_lengthOf 13 = .ok (.iconst 1, 1) := by decide +kernel
theorem dX6_lengthOf_14 : decode cX6_lengthOf 14 = .ok (.invokevirtual 103, 3) := by decide +kernel
theorem dX6_lengthOf_17 : decode cX6_lengthOf 17 = .ok (.ifCond .eq 12, 3) := by decide +kernel
theorem dX6_lengthOf_20 : decode cX6_lengthOf 20 = .ok (.aload_n 0, 1) := by decide +kernel
theorem dX6_lengthOf_21 : decode cX6_lengthOf 21 = .ok (.getfield 19, 3) := by decide +kernel
theorem dX6_lengthOf_24 : decode cX6_lengthOf 24 = .ok (.iload_n 1, 1) := by decide +kernel
theorem dX6_lengthOf_25 : decode cX6_lengthOf 25 = .ok (.iaload, 1) := by decide +kernel
theorem dX6_lengthOf_26 : decode cX6_lengthOf 26 = .ok (.goto 4, 3) := by decide +kernel
theorem dX6_lengthOf_29 : decode cX6_lengthOf 29 = .ok (.iconst 0, 1) := by decide +kernel
theorem dX6_lengthOf_30 : decode cX6_lengthOf 30 = .ok (.ireturn, 1) := by decide +kernel
theorem dX6_framesAhead_0 : decode cX6_framesAhead 0 = .ok (.iconst 0, 1) := by decide +kernel
theorem dX6_framesAhead_1 : decode cX6_framesAhead 1 = .ok (.istore_n 3, 1) := by decide +kernel
theorem dX6_framesAhead_2 : decode cX6_framesAhead 2 = .ok (.iconst 0, 1) := by decide +kernel
theorem dX6_framesAhead_3 : decode cX6_framesAhead 3 = .ok (.istore 4, 2) := by decide +kernel
theorem dX6_framesAhead_5 : decode cX6_framesAhead 5 = .ok (.iload 4, 2) := by decide +kernel
theorem dX6_framesAhead_7 : decode cX6_framesAhead 7 = .ok (.iload_n 2, 1) := by decide +kernel
theorem dX6_framesAhead_8 : decode cX6_framesAhead 8 = .ok (.if_icmp .ge 48, 3) := by decide +kernel
theorem dX6_framesAhead_11 : decode cX6_framesAhead 11 = .ok (.aload_n 0, 1) := by decide +kernel
theorem dX6_framesAhead_12 : decode cX6_framesAhead 12 = .ok (.getfield 7, 3) := by decide +kernel
theorem dX6_framesAhead_15 : decode cX6_framesAhead 15 = .ok (.bipush 60, 2) := by decide +kernel
theorem dX6_framesAhead_17 : decode cX6_framesAhead 17 = .ok (.iload_n 1, 1) := by decide +kernel
theorem dX6_framesAhead_18 : decode cX6_framesAhead 18 = .ok (.imul, 1) := by decide +kernel
theorem dX6_framesAhead_19 : decode cX6_framesAhead 19 = .ok (.iload 4, 2) := by decide +kernel
theorem dX6_framesAhead_21 : decode cX6_framesAhead 21 = .ok (.iadd, 1) := by decide +kernel
theorem dX6_framesAhead_22 : decode cX6_framesAhead 22 = .ok (.iaload, 1) := by decide +kernel
theorem dX6_framesAhead_23 : decode cX6_framesAhead 23 = .ok (.istore 5, 2) := by decide +kernel
theorem dX6_framesAhead_25 : decode cX6_framesAhead 25 = .ok (.iload_n 3, 1) := by decide +kernel
theorem dX6_framesAhead_26 : decode cX6_framesAhead 26 = .ok (.aload_n 0, 1) := by decide +kernel
theorem dX6_framesAhead_27 : decode cX6_framesAhead 27 = .ok (.getfield 25, 3) := by decide +kernel
theorem dX6_framesAhead_30 : decode cX6_framesAhead 30 = .ok (.iload 5, 2) := by decide +kernel
theorem dX6_framesAhead_32 : decode cX6_framesAhead 32 = .ok (.iaload, 1) := by decide +kernel
theorem dX6_framesAhead_33 : decode cX6_framesAhead 33 = .ok (.iconst (-1), 1) := by decide +kernel
theorem dX6_framesAhead_34 : decode cX6_framesAhead 34 = .ok (.if_icmp .ne 7, 3) := by decide +kernel
theorem dX6_framesAhead_37 : decode cX6_framesAhead 37 = .ok (.iconst 0, 1) := by decide +kernel
theorem dX6_framesAhead_38 : decode cX6_framesAhead 38 = .ok (.goto 10, 3) := by decide +kernel
theorem dX6_framesAhead_41 : decode cX6_framesAhead 41 = .ok (.aload_n 0, 1) := by decide +kernel
theorem dX6_framesAhead_42 : decode cX6_framesAhead 42 = .ok (.getfield 19, 3) := by decide +kernel
theorem dX6_framesAhead_45 : decode cX6_framesAhead 45 = .ok (.iload 5, 2) := by decide +kernel
theorem dX6_framesAhead_47 : decode cX6_framesAhead 47 = .ok (.iaload, 1) := by decide +kernel
theorem dX6_framesAhead_48 : decode cX6_framesAhead 48 = .ok (.iadd, 1) := by decide +kernel
theorem dX6_framesAhead_49 : decode cX6_framesAhead 49 = .ok (.istore_n 3, 1) := by decide +kernel
theorem dX6_framesAhead_50 : decode cX6_framesAhead 50 = .ok (.iinc 4 1, 3) := by decide +kernel
theorem dX6_framesAhead_53 : decode cX6_framesAhead 53 = .ok (.goto (-48), 3) := by decide +kernel
theorem dX6_framesAhead_56 : decode cX6_framesAhead 56 = .ok (.iload_n 3, 1) := by decide +kernel
theorem dX6_framesAhead_57 : decode cX6_framesAhead 57 = .ok (.ireturn, 1) := by decide +kernel
theorem dX6_frameOf_0 : decode cX6_frameOf 0 = .ok (.aload_n 0, 1) := by decide +kernel
theorem dX6_frameOf_1 : decode cX6_frameOf 1 = .ok (.iload_n 1, 1) := by decide +kernel
theorem dX6_frameOf_2 : decode cX6_frameOf 2 = .ok (.invokevirtual 121, 3) := by decide +kernel
theorem dX6_frameOf_5 : decode cX6_frameOf 5 = .ok (.istore_n 2, 1) := by decide +kernel
theorem dX6_frameOf_6 : decode cX6_frameOf 6 = .ok (.aload_n 0, 1) := by decide +kernel
theorem dX6_frameOf_7 : decode cX6_frameOf 7 = .ok (.iload_n 2, 1) := by decide +kernel
theorem dX6_frameOf_8 : decode cX6_frameOf 8 = .ok (.ifCond .ne 7, 3) := by decide +kernel
theorem dX6_frameOf_11 : decode cX6_frameOf 11 = .ok (.iconst 1, 1) := by decide +kernel
theorem dX6_frameOf_12 : decode cX6_frameOf 12 = .ok (.goto 18, 3) := by decide +kernel
theorem dX6_frameOf_15 : decode cX6_frameOf 15 = .ok (.aload_n 0, 1) := by decide +kernel
theorem dX6_frameOf_16 : decode cX6_frameOf 16 = .ok (.getfield 25, 3) := by decide +kernel
theorem dX6_frameOf_19 : decode cX6_frameOf 19 = .ok (.iload_n 1, 1) := by decide +kernel
theorem dX6_frameOf_20 : decode cX6_frameOf 20 = .ok (.iaload, 1) := by decide +kernel
theorem dX6_frameOf_21 : decode cX6_frameOf 21 = .ok (.iconst (-1), 1) := by decide +kernel
theorem dX6_frameOf_22 : decode cX6_frameOf 22 = .ok (.if_icmp .ne 7, 3) := by decide +kernel
theorem dX6_frameOf_25 : decode cX6_frameOf 25 = .ok (.iconst 2, 1) := by decide +kernel
theorem dX6_frameOf_26 : decode cX6_frameOf 26 = .ok (.goto 4, 3) := by decide +kernel
theorem dX6_frameOf_29 : decode cX6_frameOf 29 = .ok (.iconst 0, 1) := by decide +kernel
theorem dX6_frameOf_30 : decode cX6_frameOf 30 = .ok (.invokevirtual 103, 3) := by decide +kernel
theorem dX6_frameOf_33 : decode cX6_frameOf 33 = .ok (.ifCond .eq 21, 3) := by decide +kernel
theorem dX6_frameOf_36 : decode cX6_frameOf 36 = .ok (.aload_n 0, 1) := by decide +kernel
theorem dX6_frameOf_37 : decode cX6_frameOf 37 = .ok (.aload_n 0, 1) := by decide +kernel
theorem dX6_frameOf_38 : decode cX6_frameOf 38 = .ok (.getfield 16, 3) := by decide +kernel
theorem dX6_frameOf_41 : decode cX6_frameOf 41 = .ok (.iload_n 1, 1) := by decide +kernel
theorem dX6_frameOf_42 : decode cX6_frameOf 42 = .ok (.iaload, 1) := by decide +kernel
theorem dX6_frameOf_43 : decode cX6_frameOf 43 = .ok (.aload_n 0, 1) := by decide +kernel
theorem dX6_frameOf_44 : decode cX6_frameOf 44 = .ok (.iload_n 1, 1) := by decide +kernel
theorem dX6_frameOf_45 : decode cX6_frameOf 45 = .ok (.invokevirtual 124, 3) := by decide +kernel
theorem dX6_frameOf_48 : decode cX6_frameOf 48 = .ok (.invokevirtual 138, 3) := by decide +kernel
theorem dX6_frameOf_51 : decode cX6_frameOf 51 = .ok (.goto 4, 3) := by decide +kernel
theorem dX6_frameOf_54 : decode cX6_frameOf 54 = .ok (.iconst 0, 1) := by decide +kernel
theorem dX6_frameOf_55 : decode cX6_frameOf 55 = .ok (.ireturn, 1) := by decide +kernel
theorem dX6_shotWith_0 : decode cX6_shotWith 0 = .ok (.iload_n 2, 1) := by decide +kernel
theorem dX6_shotWith_1 : decode cX6_shotWith 1 = .ok (.istore_n 3, 1) := by decide +kernel
theorem dX6_shotWith_2 : decode cX6_shotWith 2 = .ok (.iconst (-1), 1) := by decide +kernel
theorem dX6_shotWith_3 : decode cX6_shotWith 3 = .ok (.istore 4, 2) := by decide +kernel
theorem dX6_shotWith_5 : decode cX6_shotWith 5 = .ok (.iconst 0, 1) := by decide +kernel
theorem dX6_shotWith_6 : decode cX6_shotWith 6 = .ok (.istore 5, 2) := by decide +kernel
theorem dX6_shotWith_8 : decode cX6_shotWith 8 = .ok (.iload 5, 2) := by decide +kernel
theorem dX6_shotWith_10 : decode cX6_shotWith 10 = .ok (.aload_n 0, 1) := by decide +kernel
theorem dX6_shotWith_11 : decode cX6_shotWith 11 = .ok (.getfield 13, 3) := by decide +kernel
theorem dX6_shotWith_14 : decode cX6_shotWith 14 = .ok (.iload_n 1, 1) := by decide +kernel
theorem dX6_shotWith_15 : decode cX6_shotWith 15 = .ok (.iaload, 1) := by decide +kernel
theorem dX6_shotWith_16 : decode cX6_shotWith 16 = .ok (.if_icmp .ge 72, 3) := by decide +kernel
theorem dX6_shotWith_19 : decode cX6_shotWith 19 = .ok (.iload_n 2, 1) := by decide +kernel
theorem dX6_shotWith_20 : decode cX6_shotWith 20 = .ok (.ifCond .lt 68, 3) := by decide +kernel
theorem dX6_shotWith_23 : decode cX6_shotWith 23 = .ok (.aload_n 0, 1) := by decide +kernel
theorem dX6_shotWith_24 : decode cX6_shotWith 24 = .ok (.getfield 7, 3) := by decide +kernel
theorem dX6_shotWith_27 : decode cX6_shotWith 27 = .ok (.bipush 60, 2) := by decide +kernel
theorem dX6_shotWith_29 : decode cX6_shotWith 29 = .ok (.iload_n 1, 1) := by decide +kernel
theorem dX6_shotWith_30 : decode cX6_shotWith 30 = .ok (.imul, 1) := by decide +kernel
theorem dX6_shotWith_31 : decode cX6_shotWith 31 = .ok (.iload 5, 2) := by decide +kernel
theorem dX6_shotWith_33 : decode cX6_shotWith 33 = .ok (.iadd, 1) := by decide +kernel
theorem dX6_shotWith_34 : decode cX6_shotWith 34 = .ok (.iaload, 1) := by decide +kernel
theorem dX6_shotWith_35 : decode cX6_shotWith 35 = .ok (.istore 6, 2) := by decide +kernel
theorem dX6_shotWith_37 : decode cX6_shotWith 37 = .ok (.aload_n 0, 1) := by decide +kernel
theorem dX6_shotWith_38 : decode cX6_shotWith 38 = .ok (.getfield 25, 3) := by decide +kernel
theorem dX6_shotWith_41 : decode cX6_shotWith 41 = .ok (.iload 6, 2) := by decide +kernel
theorem dX6_shotWith_43 : decode cX6_shotWith 43 = .ok (.iaload, 1) := by decide +kernel
theorem dX6_shotWith_44 : decode cX6_shotWith 44 = .ok (.iconst (-1), 1) := by decide +kernel
theorem dX6_shotWith_45 : decode cX6_shotWith 45 = .ok (.if_icmp .eq 37, 3) := by decide +kernel
theorem dX6_shotWith_48 : decode cX6_shotWith 48 = .ok (.iload_n 3, 1) := by decide +kernel
theorem dX6_shotWith_49 : decode cX6_shotWith 49 = .ok (.ifCond .lt 19, 3) := by decide +kernel
theorem dX6_shotWith_52 : decode cX6_shotWith 52 = .ok (.iload_n 3, 1) := by decide +kernel
theorem dX6_shotWith_53 : decode cX6_shotWith 53 = .ok (.aload_n 0, 1) := by decide +kernel
theorem dX6_shotWith_54 : decode cX6_shotWith 54 = .ok (.getfield 19, 3) := by decide +kernel
theorem dX6_shotWith_57 : decode cX6_shotWith 57 = .ok (.iload 6, 2) := by decide +kernel
theorem dX6_shotWith_59 : decode cX6_shotWith 59 = .ok (.iaload, 1) := by decide +kernel
theorem dX6_shotWith_60 : decode cX6_shotWith 60 = .ok (.if_icmp .ge 8, 3) := by decide +kernel
theorem dX6_shotWith_63 : decode cX6_shotWith 63 = .ok (.iload 6, 2) := by decide +kernel
theorem dX6_shotWith_65 : decode cX6_shotWith 65 = .ok (.goto 5, 3) := by decide +kernel
theorem dX6_shotWith_68 : decode cX6_shotWith 68 = .ok (.iload 4, 2) := by decide +kernel
theorem dX6_shotWith_70 : decode cX6_shotWith 70 = .ok (.istore 4, 2) := by decide +kernel
theorem dX6_shotWith_72 : decode cX6_shotWith 72 = .ok (.iload_n 3, 1) := by decide +kernel
theorem dX6_shotWith_73 : decode cX6_shotWith 73 = .ok (.aload_n 0, 1) := by decide +kernel
theorem dX6_shotWith_74 : decode cX6_shotWith 74 = .ok (.getfield 19, 3) := by decide +kernel
theorem dX6_shotWith_77 : decode cX6_shotWith 77 = .ok (.iload 6, 2) := by decide +kernel
theorem dX6_shotWith_79 : decode cX6_shotWith 79 = .ok (.iaload, 1) := by decide +kernel
theorem dX6_shotWith_80 : decode cX6_shotWith 80 = .ok (.isub, 1) := by decide +kernel
theorem dX6_shotWith_81 : decode cX6_shotWith 81 = .ok (.istore_n 3, 1) := by decide +kernel
theorem dX6_shotWith_82 : decode cX6_shotWith 82 = .ok (.iinc 5 1, 3) := by decide +kernel
theorem dX6_shotWith_85 : decode cX6_shotWith 85 = .ok (.goto (-77), 3) := by decide +kernel
theorem dX6_shotWith_88 : decode cX6_shotWith 88 = .ok (.iload 4, 2) := by decide +kernel
theorem dX6_shotWith_90 : decode cX6_shotWith 90 = .ok (.ireturn, 1) := by decide +kernel
theorem dX6_shotAt_0 : decode cX6_shotAt 0 = .ok (.aload_n 0, 1) := by decide +kernel
theorem dX6_shotAt_1 : decode cX6_shotAt 1 = .ok (.iload_n 1, 1) := by decide +kernel
theorem dX6_shotAt_2 : decode cX6_shotAt 2 = .ok (.invokevirtual 107, 3) := by decide +kernel
theorem dX6_shotAt_5 : decode cX6_shotAt 5 = .ok (.istore_n 3, 1) := by decide +kernel
theorem dX6_shotAt_6 : decode cX6_shotAt 6 = .ok (.iload_n 3, 1) := by decide +kernel
theorem dX6_shotAt_7 : decode cX6_shotAt 7 = .ok (.ifCond .eq 12, 3) := by decide +kernel
theorem dX6_shotAt_10 : decode cX6_shotAt 10 = .ok (.aload_n 0, 1) := by decide +kernel
theorem dX6_shotAt_11 : decode cX6_shotAt 11 = .ok (.iload_n 1, 1) := by decide +kernel
theorem dX6_shotAt_12 : decode cX6_shotAt 12 = .ok (.iload_n 2, 1) := by decide +kernel
theorem dX6_shotAt_13 : decode cX6_shotAt 13 = .ok (.invokevirtual 142, 3) := by decide +kernel
theorem dX6_shotAt_16 : decode cX6_shotAt 16 = .ok (.goto 4, 3) := by decide +kernel
theorem dX6_shotAt_19 : decode cX6_shotAt 19 = .ok (.iconst (-1), 1) := by decide +kernel
theorem dX6_shotAt_20 : decode cX6_shotAt 20 = .ok (.istore 4, 2) := by decide +kernel
theorem dX6_shotAt_22 : decode cX6_shotAt 22 = .ok (.aload_n 0, 1) := by decide +kernel
theorem dX6_shotAt_23 : decode cX6_shotAt 23 = .ok (.iload_n 3, 1) := by decide +kernel
theorem dX6_shotAt_24 : decode cX6_shotAt 24 = .ok (.ifCond .ne 7, 3) := by decide +kernel
theorem dX6_shotAt_27 : decode cX6_shotAt 27 = .ok (.iconst 1, 1) := by decide +kernel
theorem dX6_shotAt_28 : decode cX6_shotAt 28 = .ok (.goto 14, 3) := by decide +kernel
theorem dX6_shotAt_31 : decode cX6_shotAt 31 = .ok (.iload 4, 2) := by decide +kernel
theorem dX6_shotAt_33 : decode cX6_shotAt 33 = .ok (.iconst (-1), 1) := by decide +kernel
theorem dX6_shotAt_34 : decode cX6_shotAt 34 = .ok (.if_icmp .ne 7, 3) := by decide +kernel
theorem dX6_shotAt_37 : decode cX6_shotAt 37 = .ok (.iconst 2, 1) := by decide +kernel
theorem dX6_shotAt_38 : decode cX6_shotAt 38 = .ok (.goto 4, 3) := by decide +kernel
theorem dX6_shotAt_41 : decode cX6_shotAt 41 = .ok (.iconst 0, 1) := by decide +kernel
theorem dX6_shotAt_42 : decode cX6_shotAt 42 = .ok (.invokevirtual 103, 3) := by decide +kernel
theorem dX6_shotAt_45 : decode cX6_shotAt 45 = .ok (.ifCond .eq 8, 3) := by decide +kernel
theorem dX6_shotAt_48 : decode cX6_shotAt 48 = .ok (.iload 4, 2) := by decide +kernel
theorem dX6_shotAt_50 : decode cX6_shotAt 50 = .ok (.goto 4, 3) := by decide +kernel
theorem dX6_shotAt_53 : decode cX6_shotAt 53 = .ok (.iconst 0, 1) := by decide +kernel
theorem dX6_shotAt_54 : decode cX6_shotAt 54 = .ok (.ireturn, 1) := by decide +kernel
theorem dX6_reelOf_0 : decode cX6_reelOf 0 = .ok (.aload_n 0, 1) := by decide +kernel
theorem dX6_reelOf_1 : decode cX6_reelOf 1 = .ok (.aload_n 0, 1) := by decide +kernel
theorem dX6_reelOf_2 : decode cX6_reelOf 2 = .ok (.iload_n 1, 1) := by decide +kernel
theorem dX6_reelOf_3 : decode cX6_reelOf 3 = .ok (.invokevirtual 121, 3) := by decide +kernel
theorem dX6_reelOf_6 : decode cX6_reelOf 6 = .ok (.ifCond .eq 7, 3) := by decide +kernel
theorem dX6_reelOf_9 : decode cX6_reelOf 9 = .ok (.iconst 0, 1) := by decide +kernel
theorem dX6_reelOf_10 : decode cX6_reelOf 10 = .ok (.goto 4, 3) := by decide +kernel
theorem dX6_reelOf_13 : decode cX6_reelOf 13 = .ok (.iconst 1, 1) := by decide +kernel
theorem dX6_reelOf_14 : decode cX6_reelOf 14 = .ok (.invokevirtual 103, 3) := by decide +kernel
theorem dX6_reelOf_17 : decode cX6_reelOf 17 = .ok (.ifCond .eq 12, 3) := by decide +kernel
theorem dX6_reelOf_20 : decode cX6_reelOf 20 = .ok (.aload_n 0, 1) := by decide +kernel
theorem dX6_reelOf_21 : decode cX6_reelOf 21 = .ok (.getfield 25, 3) := by decide +kernel
theorem dX6_reelOf_24 : decode cX6_reelOf 24 = .ok (.iload_n 1, 1) := by decide +kernel
theorem dX6_reelOf_25 : decode cX6_reelOf 25 = .ok (.iaload, 1) := by decide +kernel
theorem dX6_reelOf_26 : decode cX6_reelOf 26 = .ok (.goto 4, 3) := by decide +kernel
theorem dX6_reelOf_29 : decode cX6_reelOf 29 = .ok (.iconst 0, 1) := by decide +kernel
theorem dX6_reelOf_30 : decode cX6_reelOf 30 = .ok (.ireturn, 1) := by decide +kernel
theorem dX6_greatest_0 : decode cX6_greatest 0 = .ok (.iconst 0, 1) := by decide +kernel
theorem dX6_greatest_1 : decode cX6_greatest 1 = .ok (.istore_n 2, 1) := by decide +kernel
theorem dX6_greatest_2 : decode cX6_greatest 2 = .ok (.iconst 0, 1) := by decide +kernel
theorem dX6_greatest_3 : decode cX6_greatest 3 = .ok (.istore_n 3, 1) := by decide +kernel
theorem dX6_greatest_4 : decode cX6_greatest 4 = .ok (.iload_n 3, 1) := by decide +kernel
theorem dX6_greatest_5 : decode cX6_greatest 5 = .ok (.iconst 1, 1) := by decide +kernel
theorem dX6_greatest_6 : decode cX6_greatest 6 = .ok (.iadd, 1) := by decide +kernel
theorem dX6_greatest_7 : decode cX6_greatest 7 = .ok (.aload_n 0, 1) := by decide +kernel
theorem dX6_greatest_8 : decode cX6_greatest 8 = .ok (.getfield 49, 3) := by decide +kernel
theorem dX6_greatest_11 : decode cX6_greatest 11 = .ok (.iload_n 1, 1) := by decide +kernel
theorem dX6_greatest_12 : decode cX6_greatest 12 = .ok (.iaload, 1) := by decide +kernel
theorem dX6_greatest_13 : decode cX6_greatest 13 = .ok (.if_icmp .ge 40, 3) := by decide +kernel
theorem dX6_greatest_16 : decode cX6_greatest 16 = .ok (.aload_n 0, 1) := by decide +kernel
theorem dX6_greatest_17 : decode cX6_greatest 17 = .ok (.getfield 46, 3) := by decide +kernel
theorem dX6_greatest_20 : decode cX6_greatest 20 = .ok (.bipush 60, 2) := by decide +kernel
theorem dX6_greatest_22 : decode cX6_greatest 22 = .ok (.iload_n 1, 1) := by decide +kernel
theorem dX6_greatest_23 : decode cX6_greatest 23 = .ok (.imul, 1) := by decide +kernel
theorem dX6_greatest_24 : decode cX6_greatest 24 = .ok (.iload_n 3, 1) := by decide +kernel
theorem dX6_greatest_25 : decode cX6_greatest 25 = .ok (.iadd, 1) := by decide +kernel
theorem dX6_greatest_26 : decode cX6_greatest 26 = .ok (.iaload, 1) := by decide +kernel
theorem dX6_greatest_27 : decode cX6_greatest 27 = .ok (.iload_n 2, 1) := by decide +kernel
theorem dX6_greatest_28 : decode cX6_greatest 28 = .ok (.if_icmp .le 17, 3) := by decide +kernel
theorem dX6_greatest_31 : decode cX6_greatest 31 = .ok (.aload_n 0, 1) := by decide +kernel
theorem dX6_greatest_32 : decode cX6_greatest 32 = .ok (.getfield 46, 3) := by decide +kernel
theorem dX6_greatest_35 : decode cX6_greatest 35 = .ok (.bipush 60, 2) := by decide +kernel
theorem dX6_greatest_37 : decode cX6_greatest 37 = .ok (.iload_n 1, 1) := by decide +kernel
theorem dX6_greatest_38 : decode cX6_greatest 38 = .ok (.imul, 1) := by decide +kernel
theorem dX6_greatest_39 : decode cX6_greatest 39 = .ok (.iload_n 3, 1) := by decide +kernel
theorem dX6_greatest_40 : decode cX6_greatest 40 = .ok (.iadd, 1) := by decide +kernel
theorem dX6_greatest_41 : decode cX6_greatest 41 = .ok (.iaload, 1) := by decide +kernel
theorem dX6_greatest_42 : decode cX6_greatest 42 = .ok (.goto 4, 3) := by decide +kernel
theorem dX6_greatest_45 : decode cX6_greatest 45 = .ok (.iload_n 2, 1) := by decide +kernel
theorem dX6_greatest_46 : decode cX6_greatest 46 = .ok (.istore_n 2, 1) := by decide +kernel
theorem dX6_greatest_47 : decode cX6_greatest 47 = .ok (.iinc 3 1, 3) := by decide +kernel
theorem dX6_greatest_50 : decode cX6_greatest 50 = .ok (.goto (-46), 3) := by decide +kernel
theorem dX6_greatest_53 : decode cX6_greatest 53 = .ok (.iload_n 2, 1) := by decide +kernel
theorem dX6_greatest_54 : decode cX6_greatest 54 = .ok (.ireturn, 1) := by decide +kernel
theorem dX6_hasLoan_0 : decode cX6_hasLoan 0 = .ok (.iconst 0, 1) := by decide +kernel
theorem dX6_hasLoan_1 : decode cX6_hasLoan 1 = .ok (.istore_n 1, 1) := by decide +kernel
theorem dX6_hasLoan_2 : decode cX6_hasLoan 2 = .ok (.iconst 0, 1) := by decide +kernel
theorem dX6_hasLoan_3 : decode cX6_hasLoan 3 = .ok (.istore_n 2, 1) := by decide +kernel
theorem dX6_hasLoan_4 : decode cX6_hasLoan 4 = .ok (.iload_n 2, 1) := by decide +kernel
theorem dX6_hasLoan_5 : decode cX6_hasLoan 5 = .ok (.aload_n 0, 1) := by decide +kernel
theorem dX6_hasLoan_6 : decode cX6_hasLoan 6 = .ok (.getfield 100, 3) := by decide +kernel
theorem dX6_hasLoan_9 : decode cX6_hasLoan 9 = .ok (.if_icmp .ge 28, 3) := by decide +kernel
theorem dX6_hasLoan_12 : decode cX6_hasLoan 12 = .ok (.iload_n 1, 1) := by decide +kernel
theorem dX6_hasLoan_13 : decode cX6_hasLoan 13 = .ok (.ifCond .ne 12, 3) := by decide +kernel
theorem dX6_hasLoan_16 : decode cX6_hasLoan 16 = .ok (.aload_n 0, 1) := by decide +kernel
theorem dX6_hasLoan_17 : decode cX6_hasLoan 17 = .ok (.getfield 77, 3) := by decide +kernel
theorem dX6_hasLoan_20 : decode cX6_hasLoan 20 = .ok (.iload_n 2, 1) := by decide +kernel
theorem dX6_hasLoan_21 : decode cX6_hasLoan 21 = .ok (.baload, 1) := by decide +kernel
theorem dX6_hasLoan_22 : decode cX6_hasLoan 22 = .ok (.ifCond .ne 7, 3) := by decide +kernel
theorem dX6_hasLoan_25 : decode cX6_hasLoan 25 = .ok (.iconst 1, 1) := by decide +kernel
theorem dX6_hasLoan_26 : decode cX6_hasLoan 26 = .ok (.goto 4, 3) := by decide +kernel
theorem dX6_hasLoan_29 : decode cX6_hasLoan 29 = .ok (.iconst 0, 1) := by decide +kernel
theorem dX6_hasLoan_30 : decode cX6_hasLoan 30 = .ok (.istore_n 1, 1) := by decide +kernel
theorem dX6_hasLoan_31 : decode cX6_hasLoan 31 = .ok (.iinc 2 1, 3) := by decide +kernel
theorem dX6_hasLoan_34 : decode cX6_hasLoan 34 = .ok (.goto (-30), 3) := by decide +kernel
theorem dX6_hasLoan_37 : decode cX6_hasLoan 37 = .ok (.iload_n 1, 1) := by decide +kernel
theorem dX6_hasLoan_38 : decode cX6_hasLoan 38 = .ok (.ireturn, 1) := by decide +kernel
theorem dX6_setLimit_0 : decode cX6_setLimit 0 = .ok (.iload_n 1, 1) := by decide +kernel
theorem dX6_setLimit_1 : decode cX6_setLimit 1 = .ok (.iconst 2, 1) := by decide +kernel
theorem dX6_setLimit_2 : decode cX6_setLimit 2 = .ok (.bipush 50, 2) := by decide +kernel
theorem dX6_setLimit_4 : decode cX6_setLimit 4 = .ok (.invokestatic 87, 3) := by decide +kernel
theorem dX6_setLimit_7 : decode cX6_setLimit 7 = .ok (.istore_n 2, 1) := by decide +kernel
theorem dX6_setLimit_8 : decode cX6_setLimit 8 = .ok (.iconst 0, 1) := by decide +kernel
theorem dX6_setLimit_9 : decode cX6_setLimit 9 = .ok (.istore_n 3, 1) := by decide +kernel
theorem dX6_setLimit_10 : decode cX6_setLimit 10 = .ok (.iconst 0, 1) := by decide +kernel
theorem dX6_setLimit_11 : decode cX6_setLimit 11 = .ok (.istore 4, 2) := by decide +kernel
theorem dX6_setLimit_13 : decode cX6_setLimit 13 = .ok (.iload 4, 2) := by decide +kernel
theorem dX6_setLimit_15 : decode cX6_setLimit 15 = .ok (.aload_n 0, 1) := by decide +kernel
theorem dX6_setLimit_16 : decode cX6_setLimit 16 = .ok (.getfield 94, 3) := by decide +kernel
theorem dX6_setLimit_19 : decode cX6_setLimit 19 = .ok (.if_icmp .ge 30, 3) := by decide +kernel
theorem dX6_setLimit_22 : decode cX6_setLimit 22 = .ok (.aload_n 0, 1) := by decide +kernel
theorem dX6_setLimit_23 : decode cX6_setLimit 23 = .ok (.iload 4, 2) := by decide +kernel
theorem dX6_setLimit_25 : decode cX6_setLimit 25 = .ok (.invokevirtual 145, 3) := by decide +kernel
theorem dX6_setLimit_28 : decode cX6_setLimit 28 = .ok (.iload_n 3, 1) := by decide +kernel
theorem dX6_setLimit_29 : decode cX6_setLimit 29 = .ok (.if_icmp .le 12, 3) := by decide +kernel
theorem dX6_setLimit_32 : decode cX6_setLimit 32 = .ok (.aload_n 0, 1) := by decide +kernel
theorem dX6_setLimit_33 : decode cX6_setLimit 33 = .ok (.iload 4, 2) := by decide +kernel
theorem dX6_setLimit_35 : decode cX6_setLimit 35 = .ok (.invokevirtual 145, 3) := by decide +kernel
theorem dX6_setLimit_38 : decode cX6_setLimit 38 = .ok (.goto 4, 3) := by decide +kernel
theorem dX6_setLimit_41 : decode cX6_setLimit 41 = .ok (.iload_n 3, 1) := by decide +kernel
theorem dX6_setLimit_42 : decode cX6_setLimit 42 = .ok (.istore_n 3, 1) := by decide +kernel
theorem dX6_setLimit_43 : decode cX6_setLimit 43 = .ok (.iinc 4 1, 3) := by decide +kernel
theorem dX6_setLimit_46 : decode cX6_setLimit 46 = .ok (.goto (-33), 3) := by decide +kernel
theorem dX6_setLimit_49 : decode cX6_setLimit 49 = .ok (.aload_n 0, 1) := by decide +kernel
theorem dX6_setLimit_50 : decode cX6_setLimit 50 = .ok (.iload_n 2, 1) := by decide +kernel
theorem dX6_setLimit_51 : decode cX6_setLimit 51 = .ok (.ifCond .ne 7, 3) := by decide +kernel
theorem dX6_setLimit_54 : decode cX6_setLimit 54 = .ok (.iconst 1, 1) := by decide +kernel
theorem dX6_setLimit_55 : decode cX6_setLimit 55 = .ok (.goto 28, 3) := by decide +kernel
theorem dX6_setLimit_58 : decode cX6_setLimit 58 = .ok (.iload_n 3, 1) := by decide +kernel
theorem dX6_setLimit_59 : decode cX6_setLimit 59 = .ok (.iload_n 1, 1) := by decide +kernel
theorem dX6_setLimit_60 : decode cX6_setLimit 60 = .ok (.if_icmp .gt 18, 3) := by decide +kernel
theorem dX6_setLimit_63 : decode cX6_setLimit 63 = .ok (.iload_n 1, 1) := by decide +kernel
theorem dX6_setLimit_64 : decode cX6_setLimit 64 = .ok (.aload_n 0, 1) := by decide +kernel
theorem dX6_setLimit_65 : decode cX6_setLimit 65 = .ok (.getfield 52, 3) := by decide +kernel
theorem dX6_setLimit_68 : decode cX6_setLimit 68 = .ok (.if_icmp .ge 14, 3) := by decide +kernel
theorem dX6_setLimit_71 : decode cX6_setLimit 71 = .ok (.aload_n 0, 1) := by decide +kernel
theorem dX6_setLimit_72 : decode cX6_setLimit 72 = .ok (.invokevirtual 148, 3) := by decide +kernel
theorem dX6_setLimit_75 : decode cX6_setLimit 75 = .ok (.ifCond .eq 7, 3) := by decide +kernel
theorem dX6_setLimit_78 : decode cX6_setLimit 78 = .ok (.iconst 2, 1) := by decide +kernel
theorem dX6_setLimit_79 : decode cX6_setLimit 79 = .ok (.goto 4, 3) := by decide +kernel
theorem dX6_setLimit_82 : decode cX6_setLimit 82 = .ok (.iconst 0, 1) := by decide +kernel
theorem dX6_setLimit_83 : decode cX6_setLimit 83 = .ok (.invokevirtual 103, 3) := by decide +kernel
theorem dX6_setLimit_86 : decode cX6_setLimit 86 = .ok (.ifCond .ne 5, 3) := by decide +kernel
theorem dX6_setLimit_89 : decode cX6_setLimit 89 = .ok (.iconst 0, 1) := by decide +kernel
theorem dX6_setLimit_90 : decode cX6_setLimit 90 = .ok (.ireturn, 1) := by decide +kernel
theorem dX6_setLimit_91 : decode cX6_setLimit 91 = .ok (.aload_n 0, 1) := by decide +kernel
theorem dX6_setLimit_92 : decode cX6_setLimit 92 = .ok (.getfield 52, 3) := by decide +kernel
theorem dX6_setLimit_95 : decode cX6_setLimit 95 = .ok (.istore 4, 2) := by decide +kernel
theorem dX6_setLimit_97 : decode cX6_setLimit 97 = .ok (.aload_n 0, 1) := by decide +kernel
theorem dX6_setLimit_98 : decode cX6_setLimit 98 = .ok (.iload_n 1, 1) := by decide +kernel
theorem dX6_setLimit_99 : decode cX6_setLimit 99 = .ok (.putfield 52, 3) := by decide +kernel
theorem dX6_setLimit_102 : decode cX6_setLimit 102 = .ok (.iload 4, 2) := by decide +kernel
theorem dX6_setLimit_104 : decode cX6_setLimit 104 = .ok (.ireturn, 1) := by decide +kernel
theorem dX6_framesOn_0 : decode cX6_framesOn 0 = .ok (.iconst 0, 1) := by decide +kernel
theorem dX6_framesOn_1 : decode cX6_framesOn 1 = .ok (.istore_n 2, 1) := by decide +kernel
theorem dX6_framesOn_2 : decode cX6_framesOn 2 = .ok (.iconst 0, 1) := by decide +kernel
theorem dX6_framesOn_3 : decode cX6_framesOn 3 = .ok (.istore_n 3, 1) := by decide +kernel
theorem dX6_framesOn_4 : decode cX6_framesOn 4 = .ok (.iload_n 3, 1) := by decide +kernel
theorem dX6_framesOn_5 : decode cX6_framesOn 5 = .ok (.aload_n 0, 1) := by decide +kernel
theorem dX6_framesOn_6 : decode cX6_framesOn 6 = .ok (.getfield 49, 3) := by decide +kernel
theorem dX6_framesOn_9 : decode cX6_framesOn 9 = .ok (.iload_n 1, 1) := by decide +kernel
theorem dX6_framesOn_10 : decode cX6_framesOn 10 = .ok (.iaload, 1) := by decide +kernel
theorem dX6_framesOn_11 : decode cX6_framesOn 11 = .ok (.if_icmp .ge 28, 3) := by decide +kernel
theorem dX6_framesOn_14 : decode cX6_framesOn 14 = .ok (.iload_n 2, 1) := by decide +kernel
theorem dX6_framesOn_15 : decode cX6_framesOn 15 = .ok (.aload_n 0, 1) := by decide +kernel
theorem dX6_framesOn_16 : decode cX6_framesOn 16 = .ok (.getfield 19, 3) := by decide +kernel
theorem dX6_framesOn_19 : decode cX6_framesOn 19 = .ok (.aload_n 0, 1) := by decide +kernel
theorem dX6_framesOn_20 : decode cX6_framesOn 20 = .ok (.getfield 43, 3) := by decide +kernel
theorem dX6_framesOn_23 : decode cX6_framesOn 23 = .ok (.bipush 60, 2) := by decide +kernel
theorem dX6_framesOn_25 : decode cX6_framesOn 25 = .ok (.iload_n 1, 1) := by decide +kernel
theorem dX6_framesOn_26 : decode cX6_framesOn 26 = .ok (.imul, 1) := by decide +kernel
theorem dX6_framesOn_27 : decode cX6_framesOn 27 = .ok (.iload_n 3, 1) := by decide +kernel
theorem dX6_framesOn_28 : decode cX6_framesOn 28 = .ok (.iadd, 1) := by decide +kernel
theorem dX6_framesOn_29 : decode cX6_framesOn 29 = .ok (.iaload, 1) := by decide +kernel
theorem dX6_framesOn_30 : decode cX6_framesOn 30 = .ok (.iaload, 1) := by decide +kernel
theorem dX6_framesOn_31 : decode cX6_framesOn 31 = .ok (.iadd, 1) := by decide +kernel
theorem dX6_framesOn_32 : decode cX6_framesOn 32 = .ok (.istore_n 2, 1) := by decide +kernel
theorem dX6_framesOn_33 : decode cX6_framesOn 33 = .ok (.iinc 3 1, 3) := by decide +kernel
theorem dX6_framesOn_36 : decode cX6_framesOn 36 = .ok (.goto (-32), 3) := by decide +kernel
theorem dX6_framesOn_39 : decode cX6_framesOn 39 = .ok (.iload_n 2, 1) := by decide +kernel
theorem dX6_framesOn_40 : decode cX6_framesOn 40 = .ok (.ireturn, 1) := by decide +kernel
theorem dX6_bears_0 : decode cX6_bears 0 = .ok (.aload_n 0, 1) := by decide +kernel
theorem dX6_bears_1 : decode cX6_bears 1 = .ok (.getfield 49, 3) := by decide +kernel
theorem dX6_bears_4 : decode cX6_bears 4 = .ok (.iload_n 1, 1) := by decide +kernel
theorem dX6_bears_5 : decode cX6_bears 5 = .ok (.iaload, 1) := by decide +kernel
theorem dX6_bears_6 : decode cX6_bears 6 = .ok (.iconst 2, 1) := by decide +kernel
theorem dX6_bears_7 : decode cX6_bears 7 = .ok (.if_icmp .lt 17, 3) := by decide +kernel
theorem dX6_bears_10 : decode cX6_bears 10 = .ok (.aload_n 0, 1) := by decide +kernel
theorem dX6_bears_11 : decode cX6_bears 11 = .ok (.iload_n 1, 1) := by decide +kernel
theorem dX6_bears_12 : decode cX6_bears 12 = .ok (.invokevirtual 145, 3) := by decide +kernel
theorem dX6_bears_15 : decode cX6_bears 15 = .ok (.iload_n 2, 1) := by decide +kernel
theorem dX6_bears_16 : decode cX6_bears 16 = .ok (.iadd, 1) := by decide +kernel
theorem dX6_bears_17 : decode cX6_bears 17 = .ok (.aload_n 0, 1) := by decide +kernel
theorem dX6_bears_18 : decode cX6_bears 18 = .ok (.getfield 52, 3) := by decide +kernel
theorem dX6_bears_21 : decode cX6_bears 21 = .ok (.if_icmp .gt 7, 3) := by decide +kernel
theorem dX6_bears_24 : decode cX6_bears 24 = .ok (.iconst 1, 1) := by decide +kernel
theorem dX6_bears_25 : decode cX6_bears 25 = .ok (.goto 4, 3) := by decide +kernel
theorem dX6_bears_28 : decode cX6_bears 28 = .ok (.iconst 0, 1) := by decide +kernel
theorem dX6_bears_29 : decode cX6_bears 29 = .ok (.ireturn, 1) := by decide +kernel
theorem dX6_wears_0 : decode cX6_wears 0 = .ok (.iconst 0, 1) := by decide +kernel
theorem dX6_wears_1 : decode cX6_wears 1 = .ok (.istore_n 3, 1) := by decide +kernel
theorem dX6_wears_2 : decode cX6_wears 2 = .ok (.iload_n 3, 1) := by decide +kernel
theorem dX6_wears_3 : decode cX6_wears 3 = .ok (.iconst 1, 1) := by decide +kernel
theorem dX6_wears_4 : decode cX6_wears 4 = .ok (.iadd, 1) := by decide +kernel
theorem dX6_wears_5 : decode cX6_wears 5 = .ok (.aload_n 0, 1) := by decide +kernel
theorem dX6_wears_6 : decode cX6_wears 6 = .ok (.getfield 49, 3) := by decide +kernel
theorem dX6_wears_9 : decode cX6_wears 9 = .ok (.iload_n 1, 1) := by decide +kernel
theorem dX6_wears_10 : decode cX6_wears 10 = .ok (.iaload, 1) := by decide +kernel
theorem dX6_wears_11 : decode cX6_wears 11 = .ok (.if_icmp .ge 24, 3) := by decide +kernel
theorem dX6_wears_14 : decode cX6_wears 14 = .ok (.aload_n 0, 1) := by decide +kernel
theorem dX6_wears_15 : decode cX6_wears 15 = .ok (.getfield 46, 3) := by decide +kernel
theorem dX6_wears_18 : decode cX6_wears 18 = .ok (.bipush 60, 2) := by decide +kernel
theorem dX6_wears_20 : decode cX6_wears 20 = .ok (.iload_n 1, 1) := by decide +kernel
theorem dX6_wears_21 : decode cX6_wears 21 = .ok (.imul, 1) := by decide +kernel
theorem dX6_wears_22 : decode cX6_wears 22 = .ok (.iload_n 3, 1) := by decide +kernel
theorem dX6_wears_23 : decode cX6_wears 23 = .ok (.iadd, 1) := by decide +kernel
theorem dX6_wears_24 : decode cX6_wears 24 = .ok (.dup2, 1) := by decide +kernel
theorem dX6_wears_25 : decode cX6_wears 25 = .ok (.iaload, 1) := by decide +kernel
theorem dX6_wears_26 : decode cX6_wears 26 = .ok (.iload_n 2, 1) := by decide +kernel
theorem dX6_wears_27 : decode cX6_wears 27 = .ok (.iadd, 1) := by decide +kernel
theorem dX6_wears_28 : decode cX6_wears 28 = .ok (.iastore, 1) := by decide +kernel
theorem dX6_wears_29 : decode cX6_wears 29 = .ok (.iinc 3 1, 3) := by decide +kernel
theorem dX6_wears_32 : decode cX6_wears 32 = .ok (.goto (-30), 3) := by decide +kernel
theorem dX6_wears_35 : decode cX6_wears 35 = .ok (.aload_n 0, 1) := by decide +kernel
theorem dX6_wears_36 : decode cX6_wears 36 = .ok (.dup, 1) := by decide +kernel
theorem dX6_wears_37 : decode cX6_wears 37 = .ok (.getfield 152, 3) := by decide +kernel
theorem dX6_wears_40 : decode cX6_wears 40 = .ok (.aload_n 0, 1) := by decide +kernel
theorem dX6_wears_41 : decode cX6_wears 41 = .ok (.iload_n 1, 1) := by decide +kernel
theorem dX6_wears_42 : decode cX6_wears 42 = .ok (.invokevirtual 156, 3) := by decide +kernel
theorem dX6_wears_45 : decode cX6_wears 45 = .ok (.i2l, 1) := by decide +kernel
theorem dX6_wears_46 : decode cX6_wears 46 = .ok (.ladd, 1) := by decide +kernel
theorem dX6_wears_47 : decode cX6_wears 47 = .ok (.putfield 152, 3) := by decide +kernel
theorem dX6_wears_50 : decode cX6_wears 50 = .ok (.return_, 1) := by decide +kernel
theorem dX6_run_0 : decode cX6_run 0 = .ok (.aload_n 0, 1) := by decide +kernel
theorem dX6_run_1 : decode cX6_run 1 = .ok (.iload_n 1, 1) := by decide +kernel
theorem dX6_run_2 : decode cX6_run 2 = .ok (.invokevirtual 118, 3) := by decide +kernel
theorem dX6_run_5 : decode cX6_run 5 = .ok (.istore_n 2, 1) := by decide +kernel
theorem dX6_run_6 : decode cX6_run 6 = .ok (.aload_n 0, 1) := by decide +kernel
theorem dX6_run_7 : decode cX6_run 7 = .ok (.iload_n 2, 1) := by decide +kernel
theorem dX6_run_8 : decode cX6_run 8 = .ok (.ifCond .ne 7, 3) := by decide +kernel
theorem dX6_run_11 : decode cX6_run 11 = .ok (.iconst 1, 1) := by decide +kernel
theorem dX6_run_12 : decode cX6_run 12 = .ok (.goto 30, 3) := by decide +kernel
theorem dX6_run_15 : decode cX6_run 15 = .ok (.aload_n 0, 1) := by decide +kernel
theorem dX6_run_16 : decode cX6_run 16 = .ok (.iload_n 1, 1) := by decide +kernel
theorem dX6_run_17 : decode cX6_run 17 = .ok (.iconst 1, 1) := by decide +kernel
theorem dX6_run_18 : decode cX6_run 18 = .ok (.invokevirtual 159, 3) := by decide +kernel
theorem dX6_run_21 : decode cX6_run 21 = .ok (.ifCond .eq 16, 3) := by decide +kernel
theorem dX6_run_24 : decode cX6_run 24 = .ok (.aload_n 0, 1) := by decide +kernel
theorem dX6_run_25 : decode cX6_run 25 = .ok (.aload_n 0, 1) := by decide +kernel
theorem dX6_run_26 : decode cX6_run 26 = .ok (.getfield 40, 3) := by decide +kernel
theorem dX6_run_29 : decode cX6_run 29 = .ok (.iload_n 1, 1) := by decide +kernel
theorem dX6_run_30 : decode cX6_run 30 = .ok (.iaload, 1) := by decide +kernel
theorem dX6_run_31 : decode cX6_run 31 = .ok (.invokevirtual 131, 3) := by decide +kernel
theorem dX6_run_34 : decode cX6_run 34 = .ok (.ifCond .eq 7, 3) := by decide +kernel
theorem dX6_run_37 : decode cX6_run 37 = .ok (.iconst 2, 1) := by decide +kernel
theorem dX6_run_38 : decode cX6_run 38 = .ok (.goto 4, 3) := by decide +kernel
theorem dX6_run_41 : decode cX6_run 41 = .ok (.iconst 0, 1) := by decide +kernel
theorem dX6_run_42 : decode cX6_run 42 = .ok (.invokevirtual 103, 3) := by decide +kernel
theorem dX6_run_45 : decode cX6_run 45 = .ok (.ifCond .ne 5, 3) := by decide +kernel
theorem dX6_run_48 : decode cX6_run 48 = .ok (.iconst 0, 1) := by decide +kernel
theorem dX6_run_49 : decode cX6_run 49 = .ok (.ireturn, 1) := by decide +kernel
theorem dX6_run_50 : decode cX6_run 50 = .ok (.aload_n 0, 1) := by decide +kernel
theorem dX6_run_51 : decode cX6_run 51 = .ok (.iload_n 1, 1) := by decide +kernel
theorem dX6_run_52 : decode cX6_run 52 = .ok (.iconst 1, 1) := by decide +kernel
theorem dX6_run_53 : decode cX6_run 53 = .ok (.invokevirtual 162, 3) := by decide +kernel
theorem dX6_run_56 : decode cX6_run 56 = .ok (.aload_n 0, 1) := by decide +kernel
theorem dX6_run_57 : decode cX6_run 57 = .ok (.iload_n 1, 1) := by decide +kernel
theorem dX6_run_58 : decode cX6_run 58 = .ok (.invokevirtual 145, 3) := by decide +kernel
theorem dX6_run_61 : decode cX6_run 61 = .ok (.ireturn, 1) := by decide +kernel
theorem dX6_isSplice_0 : decode cX6_isSplice 0 = .ok (.aload_n 0, 1) := by decide +kernel
theorem dX6_isSplice_1 : decode cX6_isSplice 1 = .ok (.iload_n 1, 1) := by decide +kernel
theorem dX6_isSplice_2 : decode cX6_isSplice 2 = .ok (.invokevirtual 118, 3) := by decide +kernel
theorem dX6_isSplice_5 : decode cX6_isSplice 5 = .ok (.ifCond .eq 23, 3) := by decide +kernel
theorem dX6_isSplice_8 : decode cX6_isSplice 8 = .ok (.iload_n 2, 1) := by decide +kernel
theorem dX6_isSplice_9 : decode cX6_isSplice 9 = .ok (.iconst 0, 1) := by decide +kernel
theorem dX6_isSplice_10 : decode cX6_isSplice 10 = .ok (.aload_n 0, 1) := by decide +kernel
theorem dX6_isSplice_11 : decode cX6_isSplice 11 = .ok (.getfield 49, 3) := by decide +kernel
theorem dX6_isSplice_14 : decode cX6_isSplice 14 = .ok (.iload_n 1, 1) := by decide +kernel
theorem dX6_isSplice_15 : decode cX6_isSplice 15 = .ok (.iaload, 1) := by decide +kernel
theorem dX6_isSplice_16 : decode cX6_isSplice 16 = .ok (.iconst 2, 1) := by decide +kernel
theorem dX6_isSplice_17 : decode cX6_isSplice 17 = .ok (.isub, 1) := by decide +kernel
theorem dX6_isSplice_18 : decode cX6_isSplice 18 = .ok (.invokestatic 87, 3) := by decide +kernel
theorem dX6_isSplice_21 : decode cX6_isSplice 21 = .ok (.ifCond .eq 7, 3) := by decide +kernel
theorem dX6_isSplice_24 : decode cX6_isSplice 24 = .ok (.iconst 1, 1) := by decide +kernel
theorem dX6_isSplice_25 : decode cX6_isSplice 25 = .ok (.goto 4, 3) := by decide +kernel
theorem dX6_isSplice_28 : decode cX6_isSplice 28 = .ok (.iconst 0, 1) := by decide +kernel
theorem dX6_isSplice_29 : decode cX6_isSplice 29 = .ok (.ireturn, 1) := by decide +kernel
theorem dX6_wear_0 : decode cX6_wear 0 = .ok (.aload_n 0, 1) := by decide +kernel
theorem dX6_wear_1 : decode cX6_wear 1 = .ok (.aload_n 0, 1) := by decide +kernel
theorem dX6_wear_2 : decode cX6_wear 2 = .ok (.iload_n 1, 1) := by decide +kernel
theorem dX6_wear_3 : decode cX6_wear 3 = .ok (.iload_n 2, 1) := by decide +kernel
theorem dX6_wear_4 : decode cX6_wear 4 = .ok (.invokevirtual 166, 3) := by decide +kernel
theorem dX6_wear_7 : decode cX6_wear 7 = .ok (.ifCond .eq 7, 3) := by decide +kernel
theorem dX6_wear_10 : decode cX6_wear 10 = .ok (.iconst 0, 1) := by decide +kernel
theorem dX6_wear_11 : decode cX6_wear 11 = .ok (.goto 4, 3) := by decide +kernel
theorem dX6_wear_14 : decode cX6_wear 14 = .ok (.iconst 1, 1) := by decide +kernel
theorem dX6_wear_15 : decode cX6_wear 15 = .ok (.invokevirtual 103, 3) := by decide +kernel
theorem dX6_wear_18 : decode cX6_wear 18 = .ok (.ifCond .eq 17, 3) := by decide +kernel
theorem dX6_wear_21 : decode cX6_wear 21 = .ok (.aload_n 0, 1) := by decide +kernel
theorem dX6_wear_22 : decode cX6_wear 22 = .ok (.getfield 46, 3) := by decide +kernel
theorem dX6_wear_25 : decode cX6_wear 25 = .ok (.bipush 60, 2) := by decide +kernel
theorem dX6_wear_27 : decode cX6_wear 27 = .ok (.iload_n 1, 1) := by decide +kernel
theorem dX6_wear_28 : decode cX6_wear 28 = .ok (.imul, 1) := by decide +kernel
theorem dX6_wear_29 : decode cX6_wear 29 = .ok (.iload_n 2, 1) := by decide +kernel
theorem dX6_wear_30 : decode cX6_wear 30 = .ok (.iadd, 1) := by decide +kernel
theorem dX6_wear_31 : decode cX6_wear 31 = .ok (.iaload, 1) := by decide +kernel
theorem dX6_wear_32 : decode cX6_wear 32 = .ok (.goto 4, 3) := by decide +kernel
theorem dX6_wear_35 : decode cX6_wear 35 = .ok (.iconst 0, 1) := by decide +kernel
theorem dX6_wear_36 : decode cX6_wear 36 = .ok (.ireturn, 1) := by decide +kernel
theorem dX6_mend_0 : decode cX6_mend 0 = .ok (.aload_n 0, 1) := by decide +kernel
theorem dX6_mend_1 : decode cX6_mend 1 = .ok (.iload_n 1, 1) := by decide +kernel
theorem dX6_mend_2 : decode cX6_mend 2 = .ok (.iload_n 2, 1) := by decide +kernel
theorem dX6_mend_3 : decode cX6_mend 3 = .ok (.invokevirtual 166, 3) := by decide +kernel
theorem dX6_mend_6 : decode cX6_mend 6 = .ok (.istore_n 3, 1) := by decide +kernel
theorem dX6_mend_7 : decode cX6_mend 7 = .ok (.iload_n 3, 1) := by decide +kernel
theorem dX6_mend_8 : decode cX6_mend 8 = .ok (.ifCond .eq 17, 3) := by decide +kernel
theorem dX6_mend_11 : decode cX6_mend 11 = .ok (.aload_n 0, 1) := by decide +kernel
theorem dX6_mend_12 : decode cX6_mend 12 = .ok (.getfield 43, 3) := by decide +kernel
theorem dX6_mend_15 : decode cX6_mend 15 = .ok (.bipush 60, 2) := by decide +kernel
theorem dX6_mend_17 : decode cX6_mend 17 = .ok (.iload_n 1, 1) := by decide +kernel
theorem dX6_mend_18 : decode cX6_mend 18 = .ok (.imul, 1) := by decide +kernel
theorem dX6_mend_19 : decode cX6_mend 19 = .ok (.iload_n 2, 1) := by decide +kernel
theorem dX6_mend_20 : decode cX6_mend 20 = .ok (.iadd, 1) := by decide +kernel
theorem dX6_mend_21 : decode cX6_mend 21 = .ok (.iaload, 1) := by decide +kernel
theorem dX6_mend_22 : decode cX6_mend 22 = .ok (.goto 4, 3) := by decide +kernel
theorem dX6_mend_25 : decode cX6_mend 25 = .ok (.iconst 0, 1) := by decide +kernel
theorem dX6_mend_26 : decode cX6_mend 26 = .ok (.istore 4, 2) := by decide +kernel
theorem dX6_mend_28 : decode cX6_mend 28 = .ok (.aload_n 0, 1) := by decide +kernel
theorem dX6_mend_29 : decode cX6_mend 29 = .ok (.iload_n 3, 1) := by decide +kernel
theorem dX6_mend_30 : decode cX6_mend 30 = .ok (.ifCond .ne 7, 3) := by decide +kernel
theorem dX6_mend_33 : decode cX6_mend 33 = .ok (.iconst 1, 1) := by decide +kernel
theorem dX6_mend_34 : decode cX6_mend 34 = .ok (.goto 32, 3) := by decide +kernel
theorem dX6_mend_37 : decode cX6_mend 37 = .ok (.aload_n 0, 1) := by decide +kernel
theorem dX6_mend_38 : decode cX6_mend 38 = .ok (.getfield 19, 3) := by decide +kernel
theorem dX6_mend_41 : decode cX6_mend 41 = .ok (.iload 4, 2) := by decide +kernel
theorem dX6_mend_43 : decode cX6_mend 43 = .ok (.iaload, 1) := by decide +kernel
theorem dX6_mend_44 : decode cX6_mend 44 = .ok (.iconst 2, 1) := by decide +kernel
theorem dX6_mend_45 : decode cX6_mend 45 = .ok (.if_icmp .lt 16, 3) := by decide +kernel
theorem dX6_mend_48 : decode cX6_mend 48 = .ok (.aload_n 0, 1) := by decide +kernel
theorem dX6_mend_49 : decode cX6_mend 49 = .ok (.aload_n 0, 1) := by decide +kernel
theorem dX6_mend_50 : decode cX6_mend 50 = .ok (.getfield 40, 3) := by decide +kernel
theorem dX6_mend_53 : decode cX6_mend 53 = .ok (.iload_n 1, 1) := by decide +kernel
theorem dX6_mend_54 : decode cX6_mend 54 = .ok (.iaload, 1) := by decide +kernel
theorem dX6_mend_55 : decode cX6_mend 55 = .ok (.invokevirtual 131, 3) := by decide +kernel
theorem dX6_mend_58 : decode cX6_mend 58 = .ok (.ifCond .eq 7, 3) := by decide +kernel
theorem dX6_mend_61 : decode cX6_mend 61 = .ok (.iconst 2, 1) := by decide +kernel
theorem dX6_mend_62 : decode cX6_mend 62 = .ok (.goto 4, 3) := by decide +kernel
theorem dX6_mend_65 : decode cX6_mend 65 = .ok (.iconst 0, 1) := by decide +kernel
theorem dX6_mend_66 : decode cX6_mend 66 = .ok (.invokevirtual 103, 3) := by decide +kernel
theorem dX6_mend_69 : decode cX6_mend 69 = .ok (.ifCond .ne 5, 3) := by decide +kernel
theorem dX6_mend_72 : decode cX6_mend 72 = .ok (.iconst 0, 1) := by decide +kernel
theorem dX6_mend_73 : decode cX6_mend 73 = .ok (.ireturn, 1) := by decide +kernel
theorem dX6_mend_74 : decode cX6_mend 74 = .ok (.aload_n 0, 1) := by decide +kernel
theorem dX6_mend_75 : decode cX6_mend 75 = .ok (.getfield 46, 3) := by decide +kernel
theorem dX6_mend_78 : decode cX6_mend 78 = .ok (.bipush 60, 2) := by decide +kernel
theorem dX6_mend_80 : decode cX6_mend 80 = .ok (.iload_n 1, 1) := by decide +kernel
theorem dX6_mend_81 : decode cX6_mend 81 = .ok (.imul, 1) := by decide +kernel
theorem dX6_mend_82 : decode cX6_mend 82 = .ok (.iload_n 2, 1) := by decide +kernel
theorem dX6_mend_83 : decode cX6_mend 83 = .ok (.iadd, 1) := by decide +kernel
theorem dX6_mend_84 : decode cX6_mend 84 = .ok (.iaload, 1) := by decide +kernel
theorem dX6_mend_85 : decode cX6_mend 85 = .ok (.istore 5, 2) := by decide +kernel
theorem dX6_mend_87 : decode cX6_mend 87 = .ok (.aload_n 0, 1) := by decide +kernel
theorem dX6_mend_88 : decode cX6_mend 88 = .ok (.getfield 46, 3) := by decide +kernel
theorem dX6_mend_91 : decode cX6_mend 91 = .ok (.bipush 60, 2) := by decide +kernel
theorem dX6_mend_93 : decode cX6_mend 93 = .ok (.iload_n 1, 1) := by decide +kernel
theorem dX6_mend_94 : decode cX6_mend 94 = .ok (.imul, 1) := by decide +kernel
theorem dX6_mend_95 : decode cX6_mend 95 = .ok (.iload_n 2, 1) := by decide +kernel
theorem dX6_mend_96 : decode cX6_mend 96 = .ok (.iadd, 1) := by decide +kernel
theorem dX6_mend_97 : decode cX6_mend 97 = .ok (.iconst 0, 1) := by decide +kernel
theorem dX6_mend_98 : decode cX6_mend 98 = .ok (.iastore, 1) := by decide +kernel
theorem dX6_mend_99 : decode cX6_mend 99 = .ok (.aload_n 0, 1) := by decide +kernel
theorem dX6_mend_100 : decode cX6_mend 100 = .ok (.getfield 19, 3) := by decide +kernel
theorem dX6_mend_103 : decode cX6_mend 103 = .ok (.iload 4, 2) := by decide +kernel
theorem dX6_mend_105 : decode cX6_mend 105 = .ok (.dup2, 1) := by decide +kernel
theorem dX6_mend_106 : decode cX6_mend 106 = .ok (.iaload, 1) := by decide +kernel
theorem dX6_mend_107 : decode cX6_mend 107 = .ok (.iconst 1, 1) := by decide +kernel
theorem dX6_mend_108 : decode cX6_mend 108 = .ok (.isub, 1) := by decide +kernel
theorem dX6_mend_109 : decode cX6_mend 109 = .ok (.iastore, 1) := by decide +kernel
theorem dX6_mend_110 : decode cX6_mend 110 = .ok (.iconst 0, 1) := by decide +kernel
theorem dX6_mend_111 : decode cX6_mend 111 = .ok (.istore 6, 2) := by decide +kernel
theorem dX6_mend_113 : decode cX6_mend 113 = .ok (.iload 6, 2) := by decide +kernel
theorem dX6_mend_115 : decode cX6_mend 115 = .ok (.aload_n 0, 1) := by decide +kernel
theorem dX6_mend_116 : decode cX6_mend 116 = .ok (.getfield 97, 3) := by decide +kernel
theorem dX6_mend_119 : decode cX6_mend 119 = .ok (.if_icmp .ge 57, 3) := by decide +kernel
theorem dX6_mend_122 : decode cX6_mend 122 = .ok (.bipush 32, 2) := by decide +kernel
theorem dX6_mend_124 : decode cX6_mend 124 = .ok (.bipush 60, 2) := by decide +kernel
theorem dX6_mend_126 : decode cX6_mend 126 = .ok (.iload 6, 2) := by decide +kernel
theorem dX6_mend_128 : decode cX6_mend 128 = .ok (.imul, 1) := by decide +kernel
theorem dX6_mend_129 : decode cX6_mend 129 = .ok (.iload 4, 2) := by decide +kernel
theorem dX6_mend_131 : decode cX6_mend 131 = .ok (.iadd, 1) := by decide +kernel
theorem dX6_mend_132 : decode cX6_mend 132 = .ok (.imul, 1) := by decide +kernel
theorem dX6_mend_133 : decode cX6_mend 133 = .ok (.aload_n 0, 1) := by decide +kernel
theorem dX6_mend_134 : decode cX6_mend 134 = .ok (.getfield 19, 3) := by decide +kernel
theorem dX6_mend_137 : decode cX6_mend 137 = .ok (.iload 4, 2) := by decide +kernel
theorem dX6_mend_139 : decode cX6_mend 139 = .ok (.iaload, 1) := by decide +kernel
theorem dX6_mend_140 : decode cX6_mend 140 = .ok (.bipush 32, 2) := by decide +kernel
theorem dX6_mend_142 : decode cX6_mend 142 = .ok (.idiv, 1) := by decide +kernel
theorem dX6_mend_143 : decode cX6_mend 143 = .ok (.iadd, 1) := by decide +kernel
theorem dX6_mend_144 : decode cX6_mend 144 = .ok (.istore 7, 2) := by decide +kernel
theorem dX6_mend_146 : decode cX6_mend 146 = .ok (.aload_n 0, 1) := by decide +kernel
theorem dX6_mend_147 : decode cX6_mend 147 = .ok (.getfield 62, 3) := by decide +kernel
theorem dX6_mend_150 : decode cX6_mend 150 = .ok (.iload 7, 2) := by decide +kernel
theorem dX6_mend_152 : decode cX6_mend 152 = .ok (.dup2, 1) := by decide +kernel
theorem dX6_mend_153 : decode cX6_mend 153 = .ok (.iaload, 1) := by decide +kernel
theorem dX6_mend_154 : decode cX6_mend 154 = .ok (.iconst 1, 1) := by decide +kernel
theorem dX6_mend_155 : decode cX6_mend 155 = .ok (.aload_n 0, 1) := by decide +kernel
theorem dX6_mend_156 : decode cX6_mend 156 = .ok (.getfield 19, 3) := by decide +kernel
theorem dX6_mend_159 : decode cX6_mend 159 = .ok (.iload 4, 2) := by decide +kernel
theorem dX6_mend_161 : decode cX6_mend 161 = .ok (.iaload, 1) := by decide +kernel
theorem dX6_mend_162 : decode cX6_mend 162 = .ok (.bipush 32, 2) := by decide +kernel
theorem dX6_mend_164 : decode cX6_mend 164 = .ok (.irem, 1) := by decide +kernel
theorem dX6_mend_165 : decode cX6_mend 165 = .ok (.ishl, 1) := by decide +kernel
theorem dX6_mend_166 : decode cX6_mend 166 = .ok (.iconst (-1), 1) := by decide +kernel
theorem dX6_mend_167 : decode cX6_mend 167 = .ok (.ixor, 1) := by decide +kernel
theorem dX6_mend_168 : decode cX6_mend 168 = .ok (.iand, 1) := by decide +kernel
theorem dX6_mend_169 : decode cX6_mend 169 = .ok (.iastore, 1) := by decide +kernel
theorem dX6_mend_170 : decode cX6_mend 170 = .ok (.iinc 6 1, 3) := by decide +kernel
theorem dX6_mend_173 : decode cX6_mend 173 = .ok (.goto (-60), 3) := by decide +kernel
theorem dX6_mend_176 : decode cX6_mend 176 = .ok (.aload_n 0, 1) := by decide +kernel
theorem dX6_mend_177 : decode cX6_mend 177 = .ok (.getfield 31, 3) := by decide +kernel
theorem dX6_mend_180 : decode cX6_mend 180 = .ok (.iload 4, 2) := by decide +kernel
theorem dX6_mend_182 : decode cX6_mend 182 = .ok (.aload_n 0, 1) := by decide +kernel
theorem dX6_mend_183 : decode cX6_mend 183 = .ok (.getfield 31, 3) := by decide +kernel
theorem dX6_mend_186 : decode cX6_mend 186 = .ok (.iload 4, 2) := by decide +kernel
theorem dX6_mend_188 : decode cX6_mend 188 = .ok (.iaload, 1) := by decide +kernel
theorem dX6_mend_189 : decode cX6_mend 189 = .ok (.aload_n 0, 1) := by decide +kernel
theorem dX6_mend_190 : decode cX6_mend 190 = .ok (.getfield 19, 3) := by decide +kernel
theorem dX6_mend_193 : decode cX6_mend 193 = .ok (.iload 4, 2) := by decide +kernel
theorem dX6_mend_195 : decode cX6_mend 195 = .ok (.iaload, 1) := by decide +kernel
theorem dX6_mend_196 : decode cX6_mend 196 = .ok (.if_icmp .le 13, 3) := by decide +kernel
theorem dX6_mend_199 : decode cX6_mend 199 = .ok (.aload_n 0, 1) := by decide +kernel
theorem dX6_mend_200 : decode cX6_mend 200 = .ok (.getfield 19, 3) := by decide +kernel
theorem dX6_mend_203 : decode cX6_mend 203 = .ok (.iload 4, 2) := by decide +kernel
theorem dX6_mend_205 : decode cX6_mend 205 = .ok (.iaload, 1) := by decide +kernel
theorem dX6_mend_206 : decode cX6_mend 206 = .ok (.goto 10, 3) := by decide +kernel
theorem dX6_mend_209 : decode cX6_mend 209 = .ok (.aload_n 0, 1) := by decide +kernel
theorem dX6_mend_210 : decode cX6_mend 210 = .ok (.getfield 31, 3) := by decide +kernel
theorem dX6_mend_213 : decode cX6_mend 213 = .ok (.iload 4, 2) := by decide +kernel
theorem dX6_mend_215 : decode cX6_mend 215 = .ok (.iaload, 1) := by decide +kernel
theorem dX6_mend_216 : decode cX6_mend 216 = .ok (.iastore, 1) := by decide +kernel
theorem dX6_mend_217 : decode cX6_mend 217 = .ok (.iload 5, 2) := by decide +kernel
theorem dX6_mend_219 : decode cX6_mend 219 = .ok (.ireturn, 1) := by decide +kernel
theorem dX6_isWorn_0 : decode cX6_isWorn 0 = .ok (.iload_n 2, 1) := by decide +kernel
theorem dX6_isWorn_1 : decode cX6_isWorn 1 = .ok (.iconst 0, 1) := by decide +kernel
theorem dX6_isWorn_2 : decode cX6_isWorn 2 = .ok (.aload_n 0, 1) := by decide +kernel
theorem dX6_isWorn_3 : decode cX6_isWorn 3 = .ok (.getfield 49, 3) := by decide +kernel
theorem dX6_isWorn_6 : decode cX6_isWorn 6 = .ok (.iload_n 1, 1) := by decide +kernel
theorem dX6_isWorn_7 : decode cX6_isWorn 7 = .ok (.iaload, 1) := by decide +kernel
theorem dX6_isWorn_8 : decode cX6_isWorn 8 = .ok (.iconst 2, 1) := by decide +kernel
theorem dX6_isWorn_9 : decode cX6_isWorn 9 = .ok (.isub, 1) := by decide +kernel
theorem dX6_isWorn_10 : decode cX6_isWorn 10 = .ok (.invokestatic 87, 3) := by decide +kernel
theorem dX6_isWorn_13 : decode cX6_isWorn 13 = .ok (.ifCond .eq 27, 3) := by decide +kernel
theorem dX6_isWorn_16 : decode cX6_isWorn 16 = .ok (.iconst 2, 1) := by decide +kernel
theorem dX6_isWorn_17 : decode cX6_isWorn 17 = .ok (.aload_n 0, 1) := by decide +kernel
theorem dX6_isWorn_18 : decode cX6_isWorn 18 = .ok (.getfield 46, 3) := by decide +kernel
theorem dX6_isWorn_21 : decode cX6_isWorn 21 = .ok (.bipush 60, 2) := by decide +kernel
theorem dX6_isWorn_23 : decode cX6_isWorn 23 = .ok (.iload_n 1, 1) := by decide +kernel
theorem dX6_isWorn_24 : decode cX6_isWorn 24 = .ok (.imul, 1) := by decide +kernel
theorem dX6_isWorn_25 : decode cX6_isWorn 25 = .ok (.iload_n 2, 1) := by decide +kernel
theorem dX6_isWorn_26 : decode cX6_isWorn 26 = .ok (.iadd, 1) := by decide +kernel
theorem dX6_isWorn_27 : decode cX6_isWorn 27 = .ok (.iaload, 1) := by decide +kernel
theorem dX6_isWorn_28 : decode cX6_isWorn 28 = .ok (.imul, 1) := by decide +kernel
theorem dX6_isWorn_29 : decode cX6_isWorn 29 = .ok (.aload_n 0, 1) := by decide +kernel
theorem dX6_isWorn_30 : decode cX6_isWorn 30 = .ok (.getfield 52, 3) := by decide +kernel
theorem dX6_isWorn_33 : decode cX6_isWorn 33 = .ok (.if_icmp .lt 7, 3) := by decide +kernel
theorem dX6_isWorn_36 : decode cX6_isWorn 36 = .ok (.iconst 1, 1) := by decide +kernel
theorem dX6_isWorn_37 : decode cX6_isWorn 37 = .ok (.goto 4, 3) := by decide +kernel
theorem dX6_isWorn_40 : decode cX6_isWorn 40 = .ok (.iconst 0, 1) := by decide +kernel
theorem dX6_isWorn_41 : decode cX6_isWorn 41 = .ok (.ireturn, 1) := by decide +kernel
theorem dX6_scan_0 : decode cX6_scan 0 = .ok (.aload_n 0, 1) := by decide +kernel
theorem dX6_scan_1 : decode cX6_scan 1 = .ok (.iload_n 1, 1) := by decide +kernel
theorem dX6_scan_2 : decode cX6_scan 2 = .ok (.invokevirtual 118, 3) := by decide +kernel
theorem dX6_scan_5 : decode cX6_scan 5 = .ok (.istore_n 3, 1) := by decide +kernel
theorem dX6_scan_6 : decode cX6_scan 6 = .ok (.aload_n 0, 1) := by decide +kernel
theorem dX6_scan_7 : decode cX6_scan 7 = .ok (.iload_n 3, 1) := by decide +kernel
theorem dX6_scan_8 : decode cX6_scan 8 = .ok (.ifCond .ne 7, 3) := by decide +kernel
theorem dX6_scan_11 : decode cX6_scan 11 = .ok (.iconst 1, 1) := by decide +kernel
theorem dX6_scan_12 : decode cX6_scan 12 = .ok (.goto 43, 3) := by decide +kernel
theorem dX6_scan_15 : decode cX6_scan 15 = .ok (.iload_n 2, 1) := by decide +kernel
theorem dX6_scan_16 : decode cX6_scan 16 = .ok (.iconst 1, 1) := by decide +kernel
theorem dX6_scan_17 : decode cX6_scan 17 = .ok (.iconst 4, 1) := by decide +kernel
theorem dX6_scan_18 : decode cX6_scan 18 = .ok (.invokestatic 87, 3) := by decide +kernel
theorem dX6_scan_21 : decode cX6_scan 21 = .ok (.ifCond .ne 7, 3) := by decide +kernel
theorem dX6_scan_24 : decode cX6_scan 24 = .ok (.iconst 2, 1) := by decide +kernel
theorem dX6_scan_25 : decode cX6_scan 25 = .ok (.goto 30, 3) := by decide +kernel
theorem dX6_scan_28 : decode cX6_scan 28 = .ok (.aload_n 0, 1) := by decide +kernel
theorem dX6_scan_29 : decode cX6_scan 29 = .ok (.getfield 49, 3) := by decide +kernel
theorem dX6_scan_32 : decode cX6_scan 32 = .ok (.iload_n 1, 1) := by decide +kernel
theorem dX6_scan_33 : decode cX6_scan 33 = .ok (.iaload, 1) := by decide +kernel
theorem dX6_scan_34 : decode cX6_scan 34 = .ok (.ifCond .eq 16, 3) := by decide +kernel
theorem dX6_scan_37 : decode cX6_scan 37 = .ok (.aload_n 0, 1) := by decide +kernel
theorem dX6_scan_38 : decode cX6_scan 38 = .ok (.aload_n 0, 1) := by decide +kernel
theorem dX6_scan_39 : decode cX6_scan 39 = .ok (.getfield 40, 3) := by decide +kernel
theorem dX6_scan_42 : decode cX6_scan 42 = .ok (.iload_n 1, 1) := by decide +kernel
theorem dX6_scan_43 : decode cX6_scan 43 = .ok (.iaload, 1) := by decide +kernel
theorem dX6_scan_44 : decode cX6_scan 44 = .ok (.invokevirtual 131, 3) := by decide +kernel
theorem dX6_scan_47 : decode cX6_scan 47 = .ok (.ifCond .eq 7, 3) := by decide +kernel
theorem dX6_scan_50 : decode cX6_scan 50 = .ok (.iconst 3, 1) := by decide +kernel
theorem dX6_scan_51 : decode cX6_scan 51 = .ok (.goto 4, 3) := by decide +kernel
theorem dX6_scan_54 : decode cX6_scan 54 = .ok (.iconst 0, 1) := by decide +kernel
theorem dX6_scan_55 : decode cX6_scan 55 = .ok (.invokevirtual 103, 3) := by decide +kernel
theorem dX6_scan_58 : decode cX6_scan 58 = .ok (.ifCond .ne 5, 3) := by decide +kernel
theorem dX6_scan_61 : decode cX6_scan 61 = .ok (.iconst 0, 1) := by decide +kernel
theorem dX6_scan_62 : decode cX6_scan 62 = .ok (.ireturn, 1) := by decide +kernel
theorem dX6_scan_63 : decode cX6_scan 63 = .ok (.iconst 0, 1) := by decide +kernel
theorem dX6_scan_64 : decode cX6_scan 64 = .ok (.istore 4, 2) := by decide +kernel
theorem dX6_scan_66 : decode cX6_scan 66 = .ok (.iconst 0, 1) := by decide +kernel
theorem dX6_scan_67 : decode cX6_scan 67 = .ok (.istore 5, 2) := by decide +kernel
theorem dX6_scan_69 : decode cX6_scan 69 = .ok (.iload 5, 2) := by decide +kernel
theorem dX6_scan_71 : decode cX6_scan 71 = .ok (.aload_n 0, 1) := by decide +kernel
theorem dX6_scan_72 : decode cX6_scan 72 = .ok (.getfield 49, 3) := by decide +kernel
theorem dX6_scan_75 : decode cX6_scan 75 = .ok (.iload_n 1, 1) := by decide +kernel
theorem dX6_scan_76 : decode cX6_scan 76 = .ok (.iaload, 1) := by decide +kernel
theorem dX6_scan_77 : decode cX6_scan 77 = .ok (.if_icmp .ge 119, 3) := by decide +kernel
theorem dX6_scan_80 : decode cX6_scan 80 = .ok (.aload_n 0, 1) := by decide +kernel
theorem dX6_scan_81 : decode cX6_scan 81 = .ok (.getfield 43, 3) := by decide +kernel
theorem dX6_scan_84 : decode cX6_scan 84 = .ok (.bipush 60, 2) := by decide +kernel
theorem dX6_scan_86 : decode cX6_scan 86 = .ok (.iload_n 1, 1) := by decide +kernel
theorem dX6_scan_87 : decode cX6_scan 87 = .ok (.imul, 1) := by decide +kernel
theorem dX6_scan_88 : decode cX6_scan 88 = .ok (.iload 5, 2) := by decide +kernel
theorem dX6_scan_90 : decode cX6_scan 90 = .ok (.iadd, 1) := by decide +kernel
theorem dX6_scan_91 : decode cX6_scan 91 = .ok (.iaload, 1) := by decide +kernel
theorem dX6_scan_92 : decode cX6_scan 92 = .ok (.istore 6, 2) := by decide +kernel
theorem dX6_scan_94 : decode cX6_scan 94 = .ok (.aload_n 0, 1) := by decide +kernel
theorem dX6_scan_95 : decode cX6_scan 95 = .ok (.iload_n 1, 1) := by decide +kernel
theorem dX6_scan_96 : decode cX6_scan 96 = .ok (.iload 5, 2) := by decide +kernel
theorem dX6_scan_98 : decode cX6_scan 98 = .ok (.invokevirtual 169, 3) := by decide +kernel
theorem dX6_scan_101 : decode cX6_scan 101 = .ok (.ifCond .eq 7, 3) := by decide +kernel
theorem dX6_scan_104 : decode cX6_scan 104 = .ok (.iconst 1, 1) := by decide +kernel
theorem dX6_scan_105 : decode cX6_scan 105 = .ok (.goto 4, 3) := by decide +kernel
theorem dX6_scan_108 : decode cX6_scan 108 = .ok (.iconst 0, 1) := by decide +kernel
theorem dX6_scan_109 : decode cX6_scan 109 = .ok (.aload_n 0, 1) := by decide +kernel
theorem dX6_scan_110 : decode cX6_scan 110 = .ok (.iload_n 1, 1) := by decide +kernel
theorem dX6_scan_111 : decode cX6_scan 111 = .ok (.iload 5, 2) := by decide +kernel
theorem dX6_scan_113 : decode cX6_scan 113 = .ok (.iconst 1, 1) := by decide +kernel
theorem dX6_scan_114 : decode cX6_scan 114 = .ok (.isub, 1) := by decide +kernel
theorem dX6_scan_115 : decode cX6_scan 115 = .ok (.invokevirtual 169, 3) := by decide +kernel
theorem dX6_scan_118 : decode cX6_scan 118 = .ok (.ifCond .eq 7, 3) := by decide +kernel
theorem dX6_scan_121 : decode cX6_scan 121 = .ok (.iconst 1, 1) := by decide +kernel
theorem dX6_scan_122 : decode cX6_scan 122 = .ok (.goto 4, 3) := by decide +kernel
theorem dX6_scan_125 : decode cX6_scan 125 = .ok (.iconst 0, 1) := by decide +kernel
theorem dX6_scan_126 : decode cX6_scan 126 = .ok (.iadd, 1) := by decide +kernel
theorem dX6_scan_127 : decode cX6_scan 127 = .ok (.istore 7, 2) := by decide +kernel
theorem dX6_scan_129 : decode cX6_scan 129 = .ok (.iload 7, 2) := by decide +kernel
theorem dX6_scan_131 : decode cX6_scan 131 = .ok (.aload_n 0, 1) := by decide +kernel
theorem dX6_scan_132 : decode cX6_scan 132 = .ok (.getfield 19, 3) := by decide +kernel
theorem dX6_scan_135 : decode cX6_scan 135 = .ok (.iload 6, 2) := by decide +kernel
theorem dX6_scan_137 : decode cX6_scan 137 = .ok (.iaload, 1) := by decide +kernel
theorem dX6_scan_138 : decode cX6_scan 138 = .ok (.if_icmp .le 13, 3) := by decide +kernel
theorem dX6_scan_141 : decode cX6_scan 141 = .ok (.aload_n 0, 1) := by decide +kernel
theorem dX6_scan_142 : decode cX6_scan 142 = .ok (.getfield 19, 3) := by decide +kernel
theorem dX6_scan_145 : decode cX6_scan 145 = .ok (.iload 6, 2) := by decide +kernel
theorem dX6_scan_147 : decode cX6_scan 147 = .ok (.iaload, 1) := by decide +kernel
theorem dX6_scan_148 : decode cX6_scan 148 = .ok (.goto 5, 3) := by decide +kernel
theorem dX6_scan_151 : decode cX6_scan 151 = .ok (.iload 7, 2) := by decide +kernel
theorem dX6_scan_153 : decode cX6_scan 153 = .ok (.istore 7, 2) := by decide +kernel
theorem dX6_scan_155 : decode cX6_scan 155 = .ok (.iload 4, 2) := by decide +kernel
theorem dX6_scan_157 : decode cX6_scan 157 = .ok (.iload 7, 2) := by decide +kernel
theorem dX6_scan_159 : decode cX6_scan 159 = .ok (.iadd, 1) := by decide +kernel
theorem dX6_scan_160 : decode cX6_scan 160 = .ok (.istore 4, 2) := by decide +kernel
theorem dX6_scan_162 : decode cX6_scan 162 = .ok (.iload_n 2, 1) := by decide +kernel
theorem dX6_scan_163 : decode cX6_scan 163 = .ok (.aload_n 0, 1) := by decide +kernel
theorem dX6_scan_164 : decode cX6_scan 164 = .ok (.getfield 28, 3) := by decide +kernel
theorem dX6_scan_167 : decode cX6_scan 167 = .ok (.iload 6, 2) := by decide +kernel
theorem dX6_scan_169 : decode cX6_scan 169 = .ok (.iaload, 1) := by decide +kernel
theorem dX6_scan_170 : decode cX6_scan 170 = .ok (.if_icmp .lt 20, 3) := by decide +kernel
theorem dX6_scan_173 : decode cX6_scan 173 = .ok (.aload_n 0, 1) := by decide +kernel
theorem dX6_scan_174 : decode cX6_scan 174 = .ok (.getfield 28, 3) := by decide +kernel
theorem dX6_scan_177 : decode cX6_scan 177 = .ok (.iload 6, 2) := by decide +kernel
theorem dX6_scan_179 : decode cX6_scan 179 = .ok (.iload_n 2, 1) := by decide +kernel
theorem dX6_scan_180 : decode cX6_scan 180 = .ok (.iastore, 1) := by decide +kernel
theorem dX6_scan_181 : decode cX6_scan 181 = .ok (.aload_n 0, 1) := by decide +kernel
theorem dX6_scan_182 : decode cX6_scan 182 = .ok (.getfield 31, 3) := by decide +kernel
theorem dX6_scan_185 : decode cX6_scan 185 = .ok (.iload 6, 2) := by decide +kernel
theorem dX6_scan_187 : decode cX6_scan 187 = .ok (.iload 7, 2) := by decide +kernel
theorem dX6_scan_189 : decode cX6_scan 189 = .ok (.iastore, 1) := by decide +kernel
theorem dX6_scan_190 : decode cX6_scan 190 = .ok (.iinc 5 1, 3) := by decide +kernel
theorem dX6_scan_193 : decode cX6_scan 193 = .ok (.goto (-124), 3) := by decide +kernel
theorem dX6_scan_196 : decode cX6_scan 196 = .ok (.iload 4, 2) := by decide +kernel
theorem dX6_scan_198 : decode cX6_scan 198 = .ok (.ireturn, 1) := by decide +kernel
theorem dX6_scanned_0 : decode cX6_scanned 0 = .ok (.aload_n 0, 1) := by decide +kernel
theorem dX6_scanned_1 : decode cX6_scanned 1 = .ok (.aload_n 0, 1) := by decide +kernel
theorem dX6_scanned_2 : decode cX6_scanned 2 = .ok (.iload_n 1, 1) := by decide +kernel
theorem dX6_scanned_3 : decode cX6_scanned 3 = .ok (.invokevirtual 121, 3) := by decide +kernel
theorem dX6_scanned_6 : decode cX6_scanned 6 = .ok (.ifCond .eq 7, 3) := by decide +kernel
theorem dX6_scanned_9 : decode cX6_scanned 9 = .ok (.iconst 0, 1) := by decide +kernel
theorem dX6_scanned_10 : decode cX6_scanned 10 = .ok (.goto 4, 3) := by decide +kernel
theorem dX6_scanned_13 : decode cX6_scanned 13 = .ok (.iconst 1, 1) := by decide +kernel
theorem dX6_scanned_14 : decode cX6_scanned 14 = .ok (.invokevirtual 103, 3) := by decide +kernel
theorem dX6_scanned_17 : decode cX6_scanned 17 = .ok (.ifCond .eq 12, 3) := by decide +kernel
theorem dX6_scanned_20 : decode cX6_scanned 20 = .ok (.aload_n 0, 1) := by decide +kernel
theorem dX6_scanned_21 : decode cX6_scanned 21 = .ok (.getfield 28, 3) := by decide +kernel
theorem dX6_scanned_24 : decode cX6_scanned 24 = .ok (.iload_n 1, 1) := by decide +kernel
theorem dX6_scanned_25 : decode cX6_scanned 25 = .ok (.iaload, 1) := by decide +kernel
theorem dX6_scanned_26 : decode cX6_scanned 26 = .ok (.goto 4, 3) := by decide +kernel
theorem dX6_scanned_29 : decode cX6_scanned 29 = .ok (.iconst 0, 1) := by decide +kernel
theorem dX6_scanned_30 : decode cX6_scanned 30 = .ok (.ireturn, 1) := by decide +kernel
theorem dX6_missed_0 : decode cX6_missed 0 = .ok (.aload_n 0, 1) := by decide +kernel
theorem dX6_missed_1 : decode cX6_missed 1 = .ok (.aload_n 0, 1) := by decide +kernel
theorem dX6_missed_2 : decode cX6_missed 2 = .ok (.iload_n 1, 1) := by decide +kernel
theorem dX6_missed_3 : decode cX6_missed 3 = .ok (.invokevirtual 121, 3) := by decide +kernel
theorem dX6_missed_6 : decode cX6_missed 6 = .ok (.ifCond .eq 7, 3) := by decide +kernel
theorem dX6_missed_9 : decode cX6_missed 9 = .ok (.iconst 0, 1) := by decide +kernel
theorem dX6_missed_10 : decode cX6_missed 10 = .ok (.goto 4, 3) := by decide +kernel
theorem dX6_missed_13 : decode cX6_missed 13 = .ok (.iconst 1, 1) := by decide +kernel
theorem dX6_missed_14 : decode cX6_missed 14 = .ok (.invokevirtual 103, 3) := by decide +kernel
theorem dX6_missed_17 : decode cX6_missed 17 = .ok (.ifCond .eq 12, 3) := by decide +kernel
theorem dX6_missed_20 : decode cX6_missed 20 = .ok (.aload_n 0, 1) := by decide +kernel
theorem dX6_missed_21 : decode cX6_missed 21 = .ok (.getfield 31, 3) := by decide +kernel
theorem dX6_missed_24 : decode cX6_missed 24 = .ok (.iload_n 1, 1) := by decide +kernel
theorem dX6_missed_25 : decode cX6_missed 25 = .ok (.iaload, 1) := by decide +kernel
theorem dX6_missed_26 : decode cX6_missed 26 = .ok (.goto 4, 3) := by decide +kernel
theorem dX6_missed_29 : decode cX6_missed 29 = .ok (.iconst 0, 1) := by decide +kernel
theorem dX6_missed_30 : decode cX6_missed 30 = .ok (.ireturn, 1) := by decide +kernel
theorem dX6_gradeNow_0 : decode cX6_gradeNow 0 = .ok (.aload_n 0, 1) := by decide +kernel
theorem dX6_gradeNow_1 : decode cX6_gradeNow 1 = .ok (.getfield 34, 3) := by decide +kernel
theorem dX6_gradeNow_4 : decode cX6_gradeNow 4 = .ok (.iload_n 1, 1) := by decide +kernel
theorem dX6_gradeNow_5 : decode cX6_gradeNow 5 = .ok (.iaload, 1) := by decide +kernel
theorem dX6_gradeNow_6 : decode cX6_gradeNow 6 = .ok (.iconst (-1), 1) := by decide +kernel
theorem dX6_gradeNow_7 : decode cX6_gradeNow 7 = .ok (.if_icmp .eq 12, 3) := by decide +kernel
theorem dX6_gradeNow_10 : decode cX6_gradeNow 10 = .ok (.aload_n 0, 1) := by decide +kernel
theorem dX6_gradeNow_11 : decode cX6_gradeNow 11 = .ok (.getfield 34, 3) := by decide +kernel
theorem dX6_gradeNow_14 : decode cX6_gradeNow 14 = .ok (.iload_n 1, 1) := by decide +kernel
theorem dX6_gradeNow_15 : decode cX6_gradeNow 15 = .ok (.iaload, 1) := by decide +kernel
theorem dX6_gradeNow_16 : decode cX6_gradeNow 16 = .ok (.goto 28, 3) := by decide +kernel
theorem dX6_gradeNow_19 : decode cX6_gradeNow 19 = .ok (.aload_n 0, 1) := by decide +kernel
theorem dX6_gradeNow_20 : decode cX6_gradeNow 20 = .ok (.getfield 37, 3) := by decide +kernel
theorem dX6_gradeNow_23 : decode cX6_gradeNow 23 = .ok (.iload_n 1, 1) := by decide +kernel
theorem dX6_gradeNow_24 : decode cX6_gradeNow 24 = .ok (.iaload, 1) := by decide +kernel
theorem dX6_gradeNow_25 : decode cX6_gradeNow 25 = .ok (.iconst (-1), 1) := by decide +kernel
theorem dX6_gradeNow_26 : decode cX6_gradeNow 26 = .ok (.if_icmp .eq 17, 3) := by decide +kernel
theorem dX6_gradeNow_29 : decode cX6_gradeNow 29 = .ok (.aload_n 0, 1) := by decide +kernel
theorem dX6_gradeNow_30 : decode cX6_gradeNow 30 = .ok (.getfield 34, 3) := by decide +kernel
theorem dX6_gradeNow_33 : decode cX6_gradeNow 33 = .ok (.aload_n 0, 1) := by decide +kernel
theorem dX6_gradeNow_34 : decode cX6_gradeNow 34 = .ok (.getfield 37, 3) := by decide +kernel
theorem dX6_gradeNow_37 : decode cX6_gradeNow 37 = .ok (.iload_n 1, 1) := by decide +kernel
theorem dX6_gradeNow_38 : decode cX6_gradeNow 38 = .ok (.iaload, 1) := by decide +kernel
theorem dX6_gradeNow_39 : decode cX6_gradeNow 39 = .ok (.iaload, 1) := by decide +kernel
theorem dX6_gradeNow_40 : decode cX6_gradeNow 40 = .ok (.goto 4, 3) := by decide +kernel
theorem dX6_gradeNow_43 : decode cX6_gradeNow 43 = .ok (.iconst (-1), 1) := by decide +kernel
theorem dX6_gradeNow_44 : decode cX6_gradeNow 44 = .ok (.ireturn, 1) := by decide +kernel
theorem dX6_grade_0 : decode cX6_grade 0 = .ok (.aload_n 0, 1) := by decide +kernel
theorem dX6_grade_1 : decode cX6_grade 1 = .ok (.iload_n 1, 1) := by decide +kernel
theorem dX6_grade_2 : decode cX6_grade 2 = .ok (.invokevirtual 121, 3) := by decide +kernel
theorem dX6_grade_5 : decode cX6_grade 5 = .ok (.istore_n 3, 1) := by decide +kernel
theorem dX6_grade_6 : decode cX6_grade 6 = .ok (.aload_n 0, 1) := by decide +kernel
theorem dX6_grade_7 : decode cX6_grade 7 = .ok (.iload_n 3, 1) := by decide +kernel
theorem dX6_grade_8 : decode cX6_grade 8 = .ok (.ifCond .ne 7, 3) := by decide +kernel
theorem dX6_grade_11 : decode cX6_grade 11 = .ok (.iconst 1, 1) := by decide +kernel
theorem dX6_grade_12 : decode cX6_grade 12 = .ok (.goto 37, 3) := by decide +kernel
theorem dX6_grade_15 : decode cX6_grade 15 = .ok (.iload_n 2, 1) := by decide +kernel
theorem dX6_grade_16 : decode cX6_grade 16 = .ok (.iconst (-1), 1) := by decide +kernel
theorem dX6_grade_17 : decode cX6_grade 17 = .ok (.bipush 99, 2) := by decide +kernel
theorem dX6_grade_19 : decode cX6_grade 19 = .ok (.invokestatic 87, 3) := by decide +kernel
theorem dX6_grade_22 : decode cX6_grade 22 = .ok (.ifCond .ne 7, 3) := by decide +kernel
theorem dX6_grade_25 : decode cX6_grade 25 = .ok (.iconst 2, 1) := by decide +kernel
theorem dX6_grade_26 : decode cX6_grade 26 = .ok (.goto 23, 3) := by decide +kernel
theorem dX6_grade_29 : decode cX6_grade 29 = .ok (.iload_n 2, 1) := by decide +kernel
theorem dX6_grade_30 : decode cX6_grade 30 = .ok (.iconst (-1), 1) := by decide +kernel
theorem dX6_grade_31 : decode cX6_grade 31 = .ok (.if_icmp .ne 17, 3) := by decide +kernel
theorem dX6_grade_34 : decode cX6_grade 34 = .ok (.aload_n 0, 1) := by decide +kernel
theorem dX6_grade_35 : decode cX6_grade 35 = .ok (.getfield 34, 3) := by decide +kernel
theorem dX6_grade_38 : decode cX6_grade 38 = .ok (.iload_n 1, 1) := by decide +kernel
theorem dX6_grade_39 : decode cX6_grade 39 = .ok (.iaload, 1) := by decide +kernel
theorem dX6_grade_40 : decode cX6_grade 40 = .ok (.iconst (-1), 1) := by decide +kernel
theorem dX6_grade_41 : decode cX6_grade 41 = .ok (.if_icmp .ne 7, 3) := by decide +kernel
theorem dX6_grade_44 : decode cX6_grade 44 = .ok (.iconst 3, 1) := by decide +kernel
theorem dX6_grade_45 : decode cX6_grade 45 = .ok (.goto 4, 3) := by decide +kernel
theorem dX6_grade_48 : decode cX6_grade 48 = .ok (.iconst 0, 1) := by decide +kernel
theorem dX6_grade_49 : decode cX6_grade 49 = .ok (.invokevirtual 103, 3) := by decide +kernel
theorem dX6_grade_52 : decode cX6_grade 52 = .ok (.ifCond .ne 5, 3) := by decide +kernel
theorem dX6_grade_55 : decode cX6_grade 55 = .ok (.iconst 0, 1) := by decide +kernel
theorem dX6_grade_56 : decode cX6_grade 56 = .ok (.ireturn, 1) := by decide +kernel
theorem dX6_grade_57 : decode cX6_grade 57 = .ok (.aload_n 0, 1) := by decide +kernel
theorem dX6_grade_58 : decode cX6_grade 58 = .ok (.iload_n 1, 1) := by decide +kernel
theorem dX6_grade_59 : decode cX6_grade 59 = .ok (.invokevirtual 172, 3) := by decide +kernel
theorem dX6_grade_62 : decode cX6_grade 62 = .ok (.istore 4, 2) := by decide +kernel
theorem dX6_grade_64 : decode cX6_grade 64 = .ok (.aload_n 0, 1) := by decide +kernel
theorem dX6_grade_65 : decode cX6_grade 65 = .ok (.getfield 34, 3) := by decide +kernel
theorem dX6_grade_68 : decode cX6_grade 68 = .ok (.iload_n 1, 1) := by decide +kernel
theorem dX6_grade_69 : decode cX6_grade 69 = .ok (.iload_n 2, 1) := by decide +kernel
theorem dX6_grade_70 : decode cX6_grade 70 = .ok (.iastore, 1) := by decide +kernel
theorem dX6_grade_71 : decode cX6_grade 71 = .ok (.aload_n 0, 1) := by decide +kernel
theorem dX6_grade_72 : decode cX6_grade 72 = .ok (.getfield 37, 3) := by decide +kernel
theorem dX6_grade_75 : decode cX6_grade 75 = .ok (.iload_n 1, 1) := by decide +kernel
theorem dX6_grade_76 : decode cX6_grade 76 = .ok (.iconst (-1), 1) := by decide +kernel
theorem dX6_grade_77 : decode cX6_grade 77 = .ok (.iastore, 1) := by decide +kernel
theorem dX6_grade_78 : decode cX6_grade 78 = .ok (.iconst 0, 1) := by decide +kernel
theorem dX6_grade_79 : decode cX6_grade 79 = .ok (.istore 5, 2) := by decide +kernel
theorem dX6_grade_81 : decode cX6_grade 81 = .ok (.iload 5, 2) := by decide +kernel
theorem dX6_grade_83 : decode cX6_grade 83 = .ok (.aload_n 0, 1) := by decide +kernel
theorem dX6_grade_84 : decode cX6_grade 84 = .ok (.getfield 91, 3) := by decide +kernel
theorem dX6_grade_87 : decode cX6_grade 87 = .ok (.if_icmp .ge 43, 3) := by decide +kernel
theorem dX6_grade_90 : decode cX6_grade 90 = .ok (.aload_n 0, 1) := by decide +kernel
theorem dX6_grade_91 : decode cX6_grade 91 = .ok (.getfield 37, 3) := by decide +kernel
theorem dX6_grade_94 : decode cX6_grade 94 = .ok (.iload 5, 2) := by decide +kernel
theorem dX6_grade_96 : decode cX6_grade 96 = .ok (.iload_n 2, 1) := by decide +kernel
theorem dX6_grade_97 : decode cX6_grade 97 = .ok (.iconst (-1), 1) := by decide +kernel
theorem dX6_grade_98 : decode cX6_grade 98 = .ok (.if_icmp .ne 18, 3) := by decide +kernel
theorem dX6_grade_101 : decode cX6_grade 101 = .ok (.aload_n 0, 1) := by decide +kernel
theorem dX6_grade_102 : decode cX6_grade 102 = .ok (.getfield 37, 3) := by decide +kernel
theorem dX6_grade_105 : decode cX6_grade 105 = .ok (.iload 5, 2) := by decide +kernel
theorem dX6_grade_107 : decode cX6_grade 107 = .ok (.iaload, 1) := by decide +kernel
theorem dX6_grade_108 : decode cX6_grade 108 = .ok (.iload_n 1, 1) := by decide +kernel
theorem dX6_grade_109 : decode cX6_grade 109 = .ok (.if_icmp .ne 7, 3) := by decide +kernel
theorem dX6_grade_112 : decode cX6_grade 112 = .ok (.iconst (-1), 1) := by decide +kernel
theorem dX6_grade_113 : decode cX6_grade 113 = .ok (.goto 10, 3) := by decide +kernel
theorem dX6_grade_116 : decode cX6_grade 116 = .ok (.aload_n 0, 1) := by decide +kernel
theorem dX6_grade_117 : decode cX6_grade 117 = .ok (.getfield 37, 3) := by decide +kernel
theorem dX6_grade_120 : decode cX6_grade 120 = .ok (.iload 5, 2) := by decide +kernel
theorem dX6_grade_122 : decode cX6_grade 122 = .ok (.iaload, 1) := by decide +kernel
theorem dX6_grade_123 : decode cX6_grade 123 = .ok (.iastore, 1) := by decide +kernel
theorem dX6_grade_124 : decode cX6_grade 124 = .ok (.iinc 5 1, 3) := by decide +kernel
theorem dX6_grade_127 : decode cX6_grade 127 = .ok (.goto (-46), 3) := by decide +kernel
theorem dX6_grade_130 : decode cX6_grade 130 = .ok (.iload 4, 2) := by decide +kernel
theorem dX6_grade_132 : decode cX6_grade 132 = .ok (.ireturn, 1) := by decide +kernel
theorem dX6_passOn_0 : decode cX6_passOn 0 = .ok (.aload_n 0, 1) := by decide +kernel
theorem dX6_passOn_1 : decode cX6_passOn 1 = .ok (.iload_n 1, 1) := by decide +kernel
theorem dX6_passOn_2 : decode cX6_passOn 2 = .ok (.invokevirtual 121, 3) := by decide +kernel
theorem dX6_passOn_5 : decode cX6_passOn 5 = .ok (.istore_n 2, 1) := by decide +kernel
theorem dX6_passOn_6 : decode cX6_passOn 6 = .ok (.aload_n 0, 1) := by decide +kernel
theorem dX6_passOn_7 : decode cX6_passOn 7 = .ok (.iload_n 2, 1) := by decide +kernel
theorem dX6_passOn_8 : decode cX6_passOn 8 = .ok (.ifCond .ne 7, 3) := by decide +kernel
theorem dX6_passOn_11 : decode cX6_passOn 11 = .ok (.iconst 1, 1) := by decide +kernel
theorem dX6_passOn_12 : decode cX6_passOn 12 = .ok (.goto 18, 3) := by decide +kernel
theorem dX6_passOn_15 : decode cX6_passOn 15 = .ok (.aload_n 0, 1) := by decide +kernel
theorem dX6_passOn_16 : decode cX6_passOn 16 = .ok (.getfield 34, 3) := by decide +kernel
theorem dX6_passOn_19 : decode cX6_passOn 19 = .ok (.iload_n 1, 1) := by decide +kernel
theorem dX6_passOn_20 : decode cX6_passOn 20 = .ok (.iaload, 1) := by decide +kernel
theorem dX6_passOn_21 : decode cX6_passOn 21 = .ok (.iconst (-1), 1) := by decide +kernel
theorem dX6_passOn_22 : decode cX6_passOn 22 = .ok (.if_icmp .ne 7, 3) := by decide +kernel
theorem dX6_passOn_25 : decode cX6_passOn 25 = .ok (.iconst 2, 1) := by decide +kernel
theorem dX6_passOn_26 : decode cX6_passOn 26 = .ok (.goto 4, 3) := by decide +kernel
theorem dX6_passOn_29 : decode cX6_passOn 29 = .ok (.iconst 0, 1) := by decide +kernel
theorem dX6_passOn_30 : decode cX6_passOn 30 = .ok (.invokevirtual 103, 3) := by decide +kernel
theorem dX6_passOn_33 : decode cX6_passOn 33 = .ok (.ifCond .ne 5, 3) := by decide +kernel
theorem dX6_passOn_36 : decode cX6_passOn 36 = .ok (.iconst 0, 1) := by decide +kernel
theorem dX6_passOn_37 : decode cX6_passOn 37 = .ok (.ireturn, 1) := by decide +kernel
theorem dX6_passOn_38 : decode cX6_passOn 38 = .ok (.iconst 0, 1) := by decide +kernel
theorem dX6_passOn_39 : decode cX6_passOn 39 = .ok (.istore_n 3, 1) := by decide +kernel
theorem dX6_passOn_40 : decode cX6_passOn 40 = .ok (.iconst 0, 1) := by decide +kernel
theorem dX6_passOn_41 : decode cX6_passOn 41 = .ok (.istore 4, 2) := by decide +kernel
theorem dX6_passOn_43 : decode cX6_passOn 43 = .ok (.iload 4, 2) := by decide +kernel
theorem dX6_passOn_45 : decode cX6_passOn 45 = .ok (.aload_n 0, 1) := by decide +kernel
theorem dX6_passOn_46 : decode cX6_passOn 46 = .ok (.getfield 91, 3) := by decide +kernel
theorem dX6_passOn_49 : decode cX6_passOn 49 = .ok (.if_icmp .ge 69, 3) := by decide +kernel
theorem dX6_passOn_52 : decode cX6_passOn 52 = .ok (.iload 4, 2) := by decide +kernel
theorem dX6_passOn_54 : decode cX6_passOn 54 = .ok (.iload_n 1, 1) := by decide +kernel
theorem dX6_passOn_55 : decode cX6_passOn 55 = .ok (.if_icmp .eq 57, 3) := by decide +kernel
theorem dX6_passOn_58 : decode cX6_passOn 58 = .ok (.aload_n 0, 1) := by decide +kernel
theorem dX6_passOn_59 : decode cX6_passOn 59 = .ok (.getfield 16, 3) := by decide +kernel
theorem dX6_passOn_62 : decode cX6_passOn 62 = .ok (.iload 4, 2) := by decide +kernel
theorem dX6_passOn_64 : decode cX6_passOn 64 = .ok (.iaload, 1) := by decide +kernel
theorem dX6_passOn_65 : decode cX6_passOn 65 = .ok (.aload_n 0, 1) := by decide +kernel
theorem dX6_passOn_66 : decode cX6_passOn 66 = .ok (.getfield 16, 3) := by decide +kernel
theorem dX6_passOn_69 : decode cX6_passOn 69 = .ok (.iload_n 1, 1) := by decide +kernel
theorem dX6_passOn_70 : decode cX6_passOn 70 = .ok (.iaload, 1) := by decide +kernel
theorem dX6_passOn_71 : decode cX6_passOn 71 = .ok (.if_icmp .ne 41, 3) := by decide +kernel
theorem dX6_passOn_74 : decode cX6_passOn 74 = .ok (.aload_n 0, 1) := by decide +kernel
theorem dX6_passOn_75 : decode cX6_passOn 75 = .ok (.getfield 22, 3) := by decide +kernel
theorem dX6_passOn_78 : decode cX6_passOn 78 = .ok (.iload 4, 2) := by decide +kernel
theorem dX6_passOn_80 : decode cX6_passOn 80 = .ok (.iaload, 1) := by decide +kernel
theorem dX6_passOn_81 : decode cX6_passOn 81 = .ok (.aload_n 0, 1) := by decide +kernel
theorem dX6_passOn_82 : decode cX6_passOn 82 = .ok (.getfield 22, 3) := by decide +kernel
theorem dX6_passOn_85 : decode cX6_passOn 85 = .ok (.iload_n 1, 1) := by decide +kernel
theorem dX6_passOn_86 : decode cX6_passOn 86 = .ok (.iaload, 1) := by decide +kernel
theorem dX6_passOn_87 : decode cX6_passOn 87 = .ok (.if_icmp .ne 25, 3) := by decide +kernel
theorem dX6_passOn_90 : decode cX6_passOn 90 = .ok (.aload_n 0, 1) := by decide +kernel
theorem dX6_passOn_91 : decode cX6_passOn 91 = .ok (.getfield 34, 3) := by decide +kernel
theorem dX6_passOn_94 : decode cX6_passOn 94 = .ok (.iload 4, 2) := by decide +kernel
theorem dX6_passOn_96 : decode cX6_passOn 96 = .ok (.iaload, 1) := by decide +kernel
theorem dX6_passOn_97 : decode cX6_passOn 97 = .ok (.iconst (-1), 1) := by decide +kernel
theorem dX6_passOn_98 : decode cX6_passOn 98 = .ok (.if_icmp .ne 14, 3) := by decide +kernel
theorem dX6_passOn_101 : decode cX6_passOn 101 = .ok (.aload_n 0, 1) := by decide +kernel
theorem dX6_passOn_102 : decode cX6_passOn 102 = .ok (.getfield 37, 3) := by decide +kernel
theorem dX6_passOn_105 : decode cX6_passOn 105 = .ok (.iload 4, 2) := by decide +kernel
theorem dX6_passOn_107 : decode cX6_passOn 107 = .ok (.iload_n 1, 1) := by decide +kernel
theorem dX6_passOn_108 : decode cX6_passOn 108 = .ok (.iastore, 1) := by decide +kernel
theorem dX6_passOn_109 : decode cX6_passOn 109 = .ok (.iinc 3 1, 3) := by decide +kernel
theorem dX6_passOn_112 : decode cX6_passOn 112 = .ok (.iinc 4 1, 3) := by decide +kernel
theorem dX6_passOn_115 : decode cX6_passOn 115 = .ok (.goto (-72), 3) := by decide +kernel
theorem dX6_passOn_118 : decode cX6_passOn 118 = .ok (.iload_n 3, 1) := by decide +kernel
theorem dX6_passOn_119 : decode cX6_passOn 119 = .ok (.ireturn, 1) := by decide +kernel
theorem dX6_gradeOf_0 : decode cX6_gradeOf 0 = .ok (.aload_n 0, 1) := by decide +kernel
theorem dX6_gradeOf_1 : decode cX6_gradeOf 1 = .ok (.aload_n 0, 1) := by decide +kernel
theorem dX6_gradeOf_2 : decode cX6_gradeOf 2 = .ok (.iload_n 1, 1) := by decide +kernel
theorem dX6_gradeOf_3 : decode cX6_gradeOf 3 = .ok (.invokevirtual 121, 3) := by decide +kernel
theorem dX6_gradeOf_6 : decode cX6_gradeOf 6 = .ok (.ifCond .eq 7, 3) := by decide +kernel
theorem dX6_gradeOf_9 : decode cX6_gradeOf 9 = .ok (.iconst 0, 1) := by decide +kernel
theorem dX6_gradeOf_10 : decode cX6_gradeOf 10 = .ok (.goto 4, 3) := by decide +kernel
theorem dX6_gradeOf_13 : decode cX6_gradeOf 13 = .ok (.iconst 1, 1) := by decide +kernel
theorem dX6_gradeOf_14 : decode cX6_gradeOf 14 = .ok (.invokevirtual 103, 3) := by decide +kernel
theorem dX6_gradeOf_17 : decode cX6_gradeOf 17 = .ok (.ifCond .eq 11, 3) := by decide +kernel
theorem dX6_gradeOf_20 : decode cX6_gradeOf 20 = .ok (.aload_n 0, 1) := by decide +kernel
theorem dX6_gradeOf_21 : decode cX6_gradeOf 21 = .ok (.iload_n 1, 1) := by decide +kernel
theorem dX6_gradeOf_22 : decode cX6_gradeOf 22 = .ok (.invokevirtual 172, 3) := by decide +kernel
theorem dX6_gradeOf_25 : decode cX6_gradeOf 25 = .ok (.goto 4, 3) := by decide +kernel
theorem dX6_gradeOf_28 : decode cX6_gradeOf 28 = .ok (.iconst 0, 1) := by decide +kernel
theorem dX6_gradeOf_29 : decode cX6_gradeOf 29 = .ok (.ireturn, 1) := by decide +kernel
theorem dX6_gradeFrom_0 : decode cX6_gradeFrom 0 = .ok (.aload_n 0, 1) := by decide +kernel
theorem dX6_gradeFrom_1 : decode cX6_gradeFrom 1 = .ok (.aload_n 0, 1) := by decide +kernel
theorem dX6_gradeFrom_2 : decode cX6_gradeFrom 2 = .ok (.iload_n 1, 1) := by decide +kernel
theorem dX6_gradeFrom_3 : decode cX6_gradeFrom 3 = .ok (.invokevirtual 121, 3) := by decide +kernel
theorem dX6_gradeFrom_6 : decode cX6_gradeFrom 6 = .ok (.ifCond .eq 7, 3) := by decide +kernel
theorem dX6_gradeFrom_9 : decode cX6_gradeFrom 9 = .ok (.iconst 0, 1) := by decide +kernel
theorem dX6_gradeFrom_10 : decode cX6_gradeFrom 10 = .ok (.goto 4, 3) := by decide +kernel
theorem dX6_gradeFrom_13 : decode cX6_gradeFrom 13 = .ok (.iconst 1, 1) := by decide +kernel
theorem dX6_gradeFrom_14 : decode cX6_gradeFrom 14 = .ok (.invokevirtual 103, 3) := by decide +kernel
theorem dX6_gradeFrom_17 : decode cX6_gradeFrom 17 = .ok (.ifCond .eq 26, 3) := by decide +kernel
theorem dX6_gradeFrom_20 : decode cX6_gradeFrom 20 = .ok (.aload_n 0, 1) := by decide +kernel
theorem dX6_gradeFrom_21 : decode cX6_gradeFrom 21 = .ok (.getfield 34, 3) := by decide +kernel
theorem dX6_gradeFrom_24 : decode cX6_gradeFrom 24 = .ok (.iload_n 1, 1) := by decide +kernel
theorem dX6_gradeFrom_25 : decode cX6_gradeFrom 25 = .ok (.iaload, 1) := by decide +kernel
theorem dX6_gradeFrom_26 : decode cX6_gradeFrom 26 = .ok (.iconst (-1), 1) := by decide +kernel
theorem dX6_gradeFrom_27 : decode cX6_gradeFrom 27 = .ok (.if_icmp .eq 7, 3) := by decide +kernel
theorem dX6_gradeFrom_30 : decode cX6_gradeFrom 30 = .ok (.iload_n 1, 1) := by decide +kernel
theorem dX6_gradeFrom_31 : decode cX6_gradeFrom 31 = .ok (.goto 13, 3) := by decide +kernel
theorem dX6_gradeFrom_34 : decode cX6_gradeFrom 34 = .ok (.aload_n 0, 1) := by decide +kernel
theorem dX6_gradeFrom_35 : decode cX6_gradeFrom 35 = .ok (.getfield 37, 3) := by decide +kernel
theorem dX6_gradeFrom_38 : decode cX6_gradeFrom 38 = .ok (.iload_n 1, 1) := by decide +kernel
theorem dX6_gradeFrom_39 : decode cX6_gradeFrom 39 = .ok (.iaload, 1) := by decide +kernel
theorem dX6_gradeFrom_40 : decode cX6_gradeFrom 40 = .ok (.goto 4, 3) := by decide +kernel
theorem dX6_gradeFrom_43 : decode cX6_gradeFrom 43 = .ok (.iconst 0, 1) := by decide +kernel
theorem dX6_gradeFrom_44 : decode cX6_gradeFrom 44 = .ok (.ireturn, 1) := by decide +kernel
theorem dX6_addVersion_0 : decode cX6_addVersion 0 = .ok (.aload_n 0, 1) := by decide +kernel
theorem dX6_addVersion_1 : decode cX6_addVersion 1 = .ok (.iload_n 1, 1) := by decide +kernel
theorem dX6_addVersion_2 : decode cX6_addVersion 2 = .ok (.invokevirtual 107, 3) := by decide +kernel
theorem dX6_addVersion_5 : decode cX6_addVersion 5 = .ok (.istore_n 3, 1) := by decide +kernel
theorem dX6_addVersion_6 : decode cX6_addVersion 6 = .ok (.iconst 0, 1) := by decide +kernel
theorem dX6_addVersion_7 : decode cX6_addVersion 7 = .ok (.istore 4, 2) := by decide +kernel
theorem dX6_addVersion_9 : decode cX6_addVersion 9 = .ok (.iconst 0, 1) := by decide +kernel
theorem dX6_addVersion_10 : decode cX6_addVersion 10 = .ok (.istore 5, 2) := by decide +kernel
theorem dX6_addVersion_12 : decode cX6_addVersion 12 = .ok (.iload 5, 2) := by decide +kernel
theorem dX6_addVersion_14 : decode cX6_addVersion 14 = .ok (.aload_n 0, 1) := by decide +kernel
theorem dX6_addVersion_15 : decode cX6_addVersion 15 = .ok (.getfield 97, 3) := by decide +kernel
theorem dX6_addVersion_18 : decode cX6_addVersion 18 = .ok (.if_icmp .ge 43, 3) := by decide +kernel
theorem dX6_addVersion_21 : decode cX6_addVersion 21 = .ok (.iload 4, 2) := by decide +kernel
theorem dX6_addVersion_23 : decode cX6_addVersion 23 = .ok (.ifCond .ne 25, 3) := by decide +kernel
theorem dX6_addVersion_26 : decode cX6_addVersion 26 = .ok (.aload_n 0, 1) := by decide +kernel
theorem dX6_addVersion_27 : decode cX6_addVersion 27 = .ok (.getfield 56, 3) := by decide +kernel
theorem dX6_addVersion_30 : decode cX6_addVersion 30 = .ok (.iload 5, 2) := by decide +kernel
theorem dX6_addVersion_32 : decode cX6_addVersion 32 = .ok (.iaload, 1) := by decide +kernel
theorem dX6_addVersion_33 : decode cX6_addVersion 33 = .ok (.iload_n 1, 1) := by decide +kernel
theorem dX6_addVersion_34 : decode cX6_addVersion 34 = .ok (.if_icmp .ne 18, 3) := by decide +kernel
theorem dX6_addVersion_37 : decode cX6_addVersion 37 = .ok (.aload_n 0, 1) := by decide +kernel
theorem dX6_addVersion_38 : decode cX6_addVersion 38 = .ok (.getfield 59, 3) := by decide +kernel
theorem dX6_addVersion_41 : decode cX6_addVersion 41 = .ok (.iload 5, 2) := by decide +kernel
theorem dX6_addVersion_43 : decode cX6_addVersion 43 = .ok (.iaload, 1) := by decide +kernel
theorem dX6_addVersion_44 : decode cX6_addVersion 44 = .ok (.iload_n 2, 1) := by decide +kernel
theorem dX6_addVersion_45 : decode cX6_addVersion 45 = .ok (.if_icmp .ne 7, 3) := by decide +kernel
theorem dX6_addVersion_48 : decode cX6_addVersion 48 = .ok (.iconst 1, 1) := by decide +kernel
theorem dX6_addVersion_49 : decode cX6_addVersion 49 = .ok (.goto 4, 3) := by decide +kernel
theorem dX6_addVersion_52 : decode cX6_addVersion 52 = .ok (.iconst 0, 1) := by decide +kernel
theorem dX6_addVersion_53 : decode cX6_addVersion 53 = .ok (.istore 4, 2) := by decide +kernel
theorem dX6_addVersion_55 : decode cX6_addVersion 55 = .ok (.iinc 5 1, 3) := by decide +kernel
theorem dX6_addVersion_58 : decode cX6_addVersion 58 = .ok (.goto (-46), 3) := by decide +kernel
theorem dX6_addVersion_61 : decode cX6_addVersion 61 = .ok (.aload_n 0, 1) := by decide +kernel
theorem dX6_addVersion_62 : decode cX6_addVersion 62 = .ok (.iload_n 3, 1) := by decide +kernel
theorem dX6_addVersion_63 : decode cX6_addVersion 63 = .ok (.ifCond .ne 7, 3) := by decide +kernel
theorem dX6_addVersion_66 : decode cX6_addVersion 66 = .ok (.iconst 1, 1) := by decide +kernel
theorem dX6_addVersion_67 : decode cX6_addVersion 67 = .ok (.goto 40, 3) := by decide +kernel
theorem dX6_addVersion_70 : decode cX6_addVersion 70 = .ok (.iload_n 2, 1) := by decide +kernel
theorem dX6_addVersion_71 : decode cX6_addVersion 71 = .ok (.iconst 0, 1) := by decide +kernel
theorem dX6_addVersion_72 : decode cX6_addVersion 72 = .ok (.bipush 7, 2) := by decide +kernel
theorem dX6_addVersion_74 : decode cX6_addVersion 74 = .ok (.invokestatic 87, 3) := by decide +kernel
theorem dX6_addVersion_77 : decode cX6_addVersion 77 = .ok (.ifCond .ne 7, 3) := by decide +kernel
theorem dX6_addVersion_80 : decode cX6_addVersion 80 = .ok (.iconst 2, 1) := by decide +kernel
theorem dX6_addVersion_81 : decode cX6_addVersion 81 = .ok (.goto 26, 3) := by decide +kernel
theorem dX6_addVersion_84 : decode cX6_addVersion 84 = .ok (.iload 4, 2) := by decide +kernel
theorem dX6_addVersion_86 : decode cX6_addVersion 86 = .ok (.ifCond .eq 7, 3) := by decide +kernel
theorem dX6_addVersion_89 : decode cX6_addVersion 89 = .ok (.iconst 3, 1) := by decide +kernel
theorem dX6_addVersion_90 : decode cX6_addVersion 90 = .ok (.goto 17, 3) := by decide +kernel
theorem dX6_addVersion_93 : decode cX6_addVersion 93 = .ok (.aload_n 0, 1) := by decide +kernel
theorem dX6_addVersion_94 : decode cX6_addVersion 94 = .ok (.getfield 97, 3) := by decide +kernel
theorem dX6_addVersion_97 : decode cX6_addVersion 97 = .ok (.bipush 10, 2) := by decide +kernel
theorem dX6_addVersion_99 : decode cX6_addVersion 99 = .ok (.if_icmp .ne 7, 3) := by decide +kernel
theorem dX6_addVersion_102 : decode cX6_addVersion 102 = .ok (.iconst 4, 1) := by decide +kernel
theorem dX6_addVersion_103 : decode cX6_addVersion 103 = .ok (.goto 4, 3) := by decide +kernel
theorem dX6_addVersion_106 : decode cX6_addVersion 106 = .ok (.iconst 0, 1) := by decide +kernel
theorem dX6_addVersion_107 : decode cX6_addVersion 107 = .ok (.invokevirtual 103, 3) := by decide +kernel
theorem dX6_addVersion_110 : decode cX6_addVersion 110 = .ok (.ifCond .ne 5, 3) := by decide +kernel
theorem dX6_addVersion_113 : decode cX6_addVersion 113 = .ok (.iconst 0, 1) := by decide +kernel
theorem dX6_addVersion_114 : decode cX6_addVersion 114 = .ok (.ireturn, 1) := by decide +kernel
theorem dX6_addVersion_115 : decode cX6_addVersion 115 = .ok (.aload_n 0, 1) := by decide +kernel
theorem dX6_addVersion_116 : decode cX6_addVersion 116 = .ok (.getfield 56, 3) := by decide +kernel
theorem dX6_addVersion_119 : decode cX6_addVersion 119 = .ok (.aload_n 0, 1) := by decide +kernel
theorem dX6_addVersion_120 : decode cX6_addVersion 120 = .ok (.getfield 97, 3) := by decide +kernel
theorem dX6_addVersion_123 : decode cX6_addVersion 123 = .ok (.iload_n 1, 1) := by decide +kernel
theorem dX6_addVersion_124 : decode cX6_addVersion 124 = .ok (.iastore, 1) := by decide +kernel
theorem dX6_addVersion_125 : decode cX6_addVersion 125 = .ok (.aload_n 0, 1) := by decide +kernel
theorem dX6_addVersion_126 : decode cX6_addVersion 126 = .ok (.getfield 59, 3) := by decide +kernel
theorem dX6_addVersion_129 : decode cX6_addVersion 129 = .ok (.aload_n 0, 1) := by decide +kernel
theorem dX6_addVersion_130 : decode cX6_addVersion 130 = .ok (.getfield 97, 3) := by decide +kernel
theorem dX6_addVersion_133 : decode cX6_addVersion 133 = .ok (.iload_n 2, 1) := by decide +kernel
theorem dX6_addVersion_134 : decode cX6_addVersion 134 = .ok (.iastore, 1) := by decide +kernel
theorem dX6_addVersion_135 : decode cX6_addVersion 135 = .ok (.aload_n 0, 1) := by decide +kernel
theorem dX6_addVersion_136 : decode cX6_addVersion 136 = .ok (.dup, 1) := by decide +kernel
theorem dX6_addVersion_137 : decode cX6_addVersion 137 = .ok (.getfield 97, 3) := by decide +kernel
theorem dX6_addVersion_140 : decode cX6_addVersion 140 = .ok (.iconst 1, 1) := by decide +kernel
theorem dX6_addVersion_141 : decode cX6_addVersion 141 = .ok (.iadd, 1) := by decide +kernel
theorem dX6_addVersion_142 : decode cX6_addVersion 142 = .ok (.putfield 97, 3) := by decide +kernel
theorem dX6_addVersion_145 : decode cX6_addVersion 145 = .ok (.aload_n 0, 1) := by decide +kernel
theorem dX6_addVersion_146 : decode cX6_addVersion 146 = .ok (.getfield 97, 3) := by decide +kernel
theorem dX6_addVersion_149 : decode cX6_addVersion 149 = .ok (.iconst 1, 1) := by decide +kernel
theorem dX6_addVersion_150 : decode cX6_addVersion 150 = .ok (.isub, 1) := by decide +kernel
theorem dX6_addVersion_151 : decode cX6_addVersion 151 = .ok (.ireturn, 1) := by decide +kernel
theorem dX6_isOutOf_0 : decode cX6_isOutOf 0 = .ok (.aload_n 0, 1) := by decide +kernel
theorem dX6_isOutOf_1 : decode cX6_isOutOf 1 = .ok (.getfield 62, 3) := by decide +kernel
theorem dX6_isOutOf_4 : decode cX6_isOutOf 4 = .ok (.bipush 32, 2) := by decide +kernel
theorem dX6_isOutOf_6 : decode cX6_isOutOf 6 = .ok (.bipush 60, 2) := by decide +kernel
theorem dX6_isOutOf_8 : decode cX6_isOutOf 8 = .ok (.iload_n 1, 1) := by decide +kernel
theorem dX6_isOutOf_9 : decode cX6_isOutOf 9 = .ok (.imul, 1) := by decide +kernel
theorem dX6_isOutOf_10 : decode cX6_isOutOf 10 = .ok (.iload_n 2, 1) := by decide +kernel
theorem dX6_isOutOf_11 : decode cX6_isOutOf 11 = .ok (.iadd, 1) := by decide +kernel
theorem dX6_isOutOf_12 : decode cX6_isOutOf 12 = .ok (.imul, 1) := by decide +kernel
theorem dX6_isOutOf_13 : decode cX6_isOutOf 13 = .ok (.iload_n 3, 1) := by decide +kernel
theorem dX6_isOutOf_14 : decode cX6_isOutOf 14 = .ok (.bipush 32, 2) := by decide +kernel
theorem dX6_isOutOf_16 : decode cX6_isOutOf 16 = .ok (.idiv, 1) := by decide +kernel
theorem dX6_isOutOf_17 : decode cX6_isOutOf 17 = .ok (.iadd, 1) := by decide +kernel
theorem dX6_isOutOf_18 : decode cX6_isOutOf 18 = .ok (.iaload, 1) := by decide +kernel
theorem dX6_isOutOf_19 : decode cX6_isOutOf 19 = .ok (.iload_n 3, 1) := by decide +kernel
theorem dX6_isOutOf_20 : decode cX6_isOutOf 20 = .ok (.bipush 32, 2) := by decide +kernel
theorem dX6_isOutOf_22 : decode cX6_isOutOf 22 = .ok (.irem, 1) := by decide +kernel
theorem dX6_isOutOf_23 : decode cX6_isOutOf 23 = .ok (.ishr, 1) := by decide +kernel
theorem dX6_isOutOf_24 : decode cX6_isOutOf 24 = .ok (.iconst 1, 1) := by decide +kernel
theorem dX6_isOutOf_25 : decode cX6_isOutOf 25 = .ok (.iand, 1) := by decide +kernel
theorem dX6_isOutOf_26 : decode cX6_isOutOf 26 = .ok (.iconst 1, 1) := by decide +kernel
theorem dX6_isOutOf_27 : decode cX6_isOutOf 27 = .ok (.if_icmp .ne 7, 3) := by decide +kernel
theorem dX6_isOutOf_30 : decode cX6_isOutOf 30 = .ok (.iconst 1, 1) := by decide +kernel
theorem dX6_isOutOf_31 : decode cX6_isOutOf 31 = .ok (.goto 4, 3) := by decide +kernel
theorem dX6_isOutOf_34 : decode cX6_isOutOf 34 = .ok (.iconst 0, 1) := by decide +kernel
theorem dX6_isOutOf_35 : decode cX6_isOutOf 35 = .ok (.ireturn, 1) := by decide +kernel
theorem dX6_leaveOut_0 : decode cX6_leaveOut 0 = .ok (.aload_n 0, 1) := by decide +kernel
theorem dX6_leaveOut_1 : decode cX6_leaveOut 1 = .ok (.iload_n 1, 1) := by decide +kernel
theorem dX6_leaveOut_2 : decode cX6_leaveOut 2 = .ok (.invokevirtual 175, 3) := by decide +kernel
theorem dX6_leaveOut_5 : decode cX6_leaveOut 5 = .ok (.istore 5, 2) := by decide +kernel
theorem dX6_leaveOut_7 : decode cX6_leaveOut 7 = .ok (.iload 5, 2) := by decide +kernel
theorem dX6_leaveOut_9 : decode cX6_leaveOut 9 = .ok (.ifCond .eq 12, 3) := by decide +kernel
theorem dX6_leaveOut_12 : decode cX6_leaveOut 12 = .ok (.aload_n 0, 1) := by decide +kernel
theorem dX6_leaveOut_13 : decode cX6_leaveOut 13 = .ok (.getfield 56, 3) := by decide +kernel
theorem dX6_leaveOut_16 : decode cX6_leaveOut 16 = .ok (.iload_n 1, 1) := by decide +kernel
theorem dX6_leaveOut_17 : decode cX6_leaveOut 17 = .ok (.iaload, 1) := by decide +kernel
theorem dX6_leaveOut_18 : decode cX6_leaveOut 18 = .ok (.goto 4, 3) := by decide +kernel
theorem dX6_leaveOut_21 : decode cX6_leaveOut 21 = .ok (.iconst 0, 1) := by decide +kernel
theorem dX6_leaveOut_22 : decode cX6_leaveOut 22 = .ok (.istore 6, 2) := by decide +kernel
theorem dX6_leaveOut_24 : decode cX6_leaveOut 24 = .ok (.iload 5, 2) := by decide +kernel
theorem dX6_leaveOut_26 : decode cX6_leaveOut 26 = .ok (.ifCond .eq 33, 3) := by decide +kernel
theorem dX6_leaveOut_29 : decode cX6_leaveOut 29 = .ok (.iload_n 2, 1) := by decide +kernel
theorem dX6_leaveOut_30 : decode cX6_leaveOut 30 = .ok (.ifCond .lt 29, 3) := by decide +kernel
theorem dX6_leaveOut_33 : decode cX6_leaveOut 33 = .ok (.iload_n 3, 1) := by decide +kernel
theorem dX6_leaveOut_34 : decode cX6_leaveOut 34 = .ok (.iload_n 2, 1) := by decide +kernel
theorem dX6_leaveOut_35 : decode cX6_leaveOut 35 = .ok (.if_icmp .le 24, 3) := by decide +kernel
theorem dX6_leaveOut_38 : decode cX6_leaveOut 38 = .ok (.iload_n 3, 1) := by decide +kernel
theorem dX6_leaveOut_39 : decode cX6_leaveOut 39 = .ok (.aload_n 0, 1) := by decide +kernel
theorem dX6_leaveOut_40 : decode cX6_leaveOut 40 = .ok (.iload 6, 2) := by decide +kernel
theorem dX6_leaveOut_42 : decode cX6_leaveOut 42 = .ok (.aload_n 0, 1) := by decide +kernel
theorem dX6_leaveOut_43 : decode cX6_leaveOut 43 = .ok (.getfield 13, 3) := by decide +kernel
theorem dX6_leaveOut_46 : decode cX6_leaveOut 46 = .ok (.iload 6, 2) := by decide +kernel
theorem dX6_leaveOut_48 : decode cX6_leaveOut 48 = .ok (.iaload, 1) := by decide +kernel
theorem dX6_leaveOut_49 : decode cX6_leaveOut 49 = .ok (.invokevirtual 138, 3) := by decide +kernel
theorem dX6_leaveOut_52 : decode cX6_leaveOut 52 = .ok (.if_icmp .gt 7, 3) := by decide +kernel
theorem dX6_leaveOut_55 : decode cX6_leaveOut 55 = .ok (.iconst 1, 1) := by decide +kernel
theorem dX6_leaveOut_56 : decode cX6_leaveOut 56 = .ok (.goto 4, 3) := by decide +kernel
theorem dX6_leaveOut_59 : decode cX6_leaveOut 59 = .ok (.iconst 0, 1) := by decide +kernel
theorem dX6_leaveOut_60 : decode cX6_leaveOut 60 = .ok (.istore 7, 2) := by decide +kernel
theorem dX6_leaveOut_62 : decode cX6_leaveOut 62 = .ok (.aload_n 0, 1) := by decide +kernel
theorem dX6_leaveOut_63 : decode cX6_leaveOut 63 = .ok (.iload 5, 2) := by decide +kernel
theorem dX6_leaveOut_65 : decode cX6_leaveOut 65 = .ok (.ifCond .ne 7, 3) := by decide +kernel
theorem dX6_leaveOut_68 : decode cX6_leaveOut 68 = .ok (.iconst 1, 1) := by decide +kernel
theorem dX6_leaveOut_69 : decode cX6_leaveOut 69 = .ok (.goto 13, 3) := by decide +kernel
theorem dX6_leaveOut_72 : decode cX6_leaveOut 72 = .ok (.iload 7, 2) := by decide +kernel
theorem dX6_leaveOut_74 : decode cX6_leaveOut 74 = .ok (.ifCond .ne 7, 3) := by decide +kernel
theorem dX6_leaveOut_77 : decode cX6_leaveOut 77 = .ok (.iconst 2, 1) := by decide +kernel
theorem dX6_leaveOut_78 : decode cX6_leaveOut 78 = .ok (.goto 4, 3) := by decide +kernel
theorem dX6_leaveOut_81 : decode cX6_leaveOut 81 = .ok (.iconst 0, 1) := by decide +kernel
theorem dX6_leaveOut_82 : decode cX6_leaveOut 82 = .ok (.invokevirtual 103, 3) := by decide +kernel
theorem dX6_leaveOut_85 : decode cX6_leaveOut 85 = .ok (.ifCond .ne 5, 3) := by decide +kernel
theorem dX6_leaveOut_88 : decode cX6_leaveOut 88 = .ok (.iconst 0, 1) := by decide +kernel
theorem dX6_leaveOut_89 : decode cX6_leaveOut 89 = .ok (.ireturn, 1) := by decide +kernel
theorem dX6_leaveOut_90 : decode cX6_leaveOut 90 = .ok (.iconst 0, 1) := by decide +kernel
theorem dX6_leaveOut_91 : decode cX6_leaveOut 91 = .ok (.istore 8, 2) := by decide +kernel
theorem dX6_leaveOut_93 : decode cX6_leaveOut 93 = .ok (.iconst 0, 1) := by decide +kernel
theorem dX6_leaveOut_94 : decode cX6_leaveOut 94 = .ok (.istore 9, 2) := by decide +kernel
theorem dX6_leaveOut_96 : decode cX6_leaveOut 96 = .ok (.iconst 0, 1) := by decide +kernel
theorem dX6_leaveOut_97 : decode cX6_leaveOut 97 = .ok (.istore 10, 2) := by decide +kernel
theorem dX6_leaveOut_99 : decode cX6_leaveOut 99 = .ok (.iload 10, 2) := by decide +kernel
theorem dX6_leaveOut_101 : decode cX6_leaveOut 101 = .ok (.aload_n 0, 1) := by decide +kernel
theorem dX6_leaveOut_102 : decode cX6_leaveOut 102 = .ok (.getfield 13, 3) := by decide +kernel
theorem dX6_leaveOut_105 : decode cX6_leaveOut 105 = .ok (.iload 6, 2) := by decide +kernel
theorem dX6_leaveOut_107 : decode cX6_leaveOut 107 = .ok (.iaload, 1) := by decide +kernel
theorem dX6_leaveOut_108 : decode cX6_leaveOut 108 = .ok (.if_icmp .ge 119, 3) := by decide +kernel
theorem dX6_leaveOut_111 : decode cX6_leaveOut 111 = .ok (.aload_n 0, 1) := by decide +kernel
theorem dX6_leaveOut_112 : decode cX6_leaveOut 112 = .ok (.getfield 7, 3) := by decide +kernel
theorem dX6_leaveOut_115 : decode cX6_leaveOut 115 = .ok (.bipush 60, 2) := by decide +kernel
theorem dX6_leaveOut_117 : decode cX6_leaveOut 117 = .ok (.iload 6, 2) := by decide +kernel
theorem dX6_leaveOut_119 : decode cX6_leaveOut 119 = .ok (.imul, 1) := by decide +kernel
theorem dX6_leaveOut_120 : decode cX6_leaveOut 120 = .ok (.iload 10, 2) := by decide +kernel
theorem dX6_leaveOut_122 : decode cX6_leaveOut 122 = .ok (.iadd, 1) := by decide +kernel
theorem dX6_leaveOut_123 : decode cX6_leaveOut 123 = .ok (.iaload, 1) := by decide +kernel
theorem dX6_leaveOut_124 : decode cX6_leaveOut 124 = .ok (.istore 11, 2) := by decide +kernel
theorem dX6_leaveOut_126 : decode cX6_leaveOut 126 = .ok (.iconst 0, 1) := by decide +kernel
theorem dX6_leaveOut_127 : decode cX6_leaveOut 127 = .ok (.istore 12, 2) := by decide +kernel
theorem dX6_leaveOut_129 : decode cX6_leaveOut 129 = .ok (.iload 12, 2) := by decide +kernel
theorem dX6_leaveOut_131 : decode cX6_leaveOut 131 = .ok (.aload_n 0, 1) := by decide +kernel
theorem dX6_leaveOut_132 : decode cX6_leaveOut 132 = .ok (.getfield 19, 3) := by decide +kernel
theorem dX6_leaveOut_135 : decode cX6_leaveOut 135 = .ok (.iload 11, 2) := by decide +kernel
theorem dX6_leaveOut_137 : decode cX6_leaveOut 137 = .ok (.iaload, 1) := by decide +kernel
theorem dX6_leaveOut_138 : decode cX6_leaveOut 138 = .ok (.if_icmp .ge 83, 3) := by decide +kernel
theorem dX6_leaveOut_141 : decode cX6_leaveOut 141 = .ok (.aload_n 0, 1) := by decide +kernel
theorem dX6_leaveOut_142 : decode cX6_leaveOut 142 = .ok (.getfield 25, 3) := by decide +kernel
theorem dX6_leaveOut_145 : decode cX6_leaveOut 145 = .ok (.iload 11, 2) := by decide +kernel
theorem dX6_leaveOut_147 : decode cX6_leaveOut 147 = .ok (.iaload, 1) := by decide +kernel
theorem dX6_leaveOut_148 : decode cX6_leaveOut 148 = .ok (.iconst (-1), 1) := by decide +kernel
theorem dX6_leaveOut_149 : decode cX6_leaveOut 149 = .ok (.if_icmp .eq 72, 3) := by decide +kernel
theorem dX6_leaveOut_152 : decode cX6_leaveOut 152 = .ok (.iload 9, 2) := by decide +kernel
theorem dX6_leaveOut_154 : decode cX6_leaveOut 154 = .ok (.iload_n 2, 1) := by decide +kernel
theorem dX6_leaveOut_155 : decode cX6_leaveOut 155 = .ok (.if_icmp .lt 57, 3) := by decide +kernel
theorem dX6_leaveOut_158 : decode cX6_leaveOut 158 = .ok (.iload 9, 2) := by decide +kernel
theorem dX6_leaveOut_160 : decode cX6_leaveOut 160 = .ok (.iload_n 3, 1) := by decide +kernel
theorem dX6_leaveOut_161 : decode cX6_leaveOut 161 = .ok (.if_icmp .ge 51, 3) := by decide +kernel
theorem dX6_leaveOut_164 : decode cX6_leaveOut 164 = .ok (.aload_n 0, 1) := by decide +kernel
theorem dX6_leaveOut_165 : decode cX6_leaveOut 165 = .ok (.iload_n 1, 1) := by decide +kernel
theorem dX6_leaveOut_166 : decode cX6_leaveOut 166 = .ok (.iload 11, 2) := by decide +kernel
theorem dX6_leaveOut_168 : decode cX6_leaveOut 168 = .ok (.iload 12, 2) := by decide +kernel
theorem dX6_leaveOut_170 : decode cX6_leaveOut 170 = .ok (.invokevirtual 178, 3) := by decide +kernel
theorem dX6_leaveOut_173 : decode cX6_leaveOut 173 = .ok (.iload 4, 2) := by decide +kernel
theorem dX6_leaveOut_175 : decode cX6_leaveOut 175 = .ok (.if_icmp .eq 37, 3) := by decide +kernel
theorem dX6_leaveOut_178 : decode cX6_leaveOut 178 = .ok (.aload_n 0, 1) := by decide +kernel
theorem dX6_leaveOut_179 : decode cX6_leaveOut 179 = .ok (.getfield 62, 3) := by decide +kernel
theorem dX6_leaveOut_182 : decode cX6_leaveOut 182 = .ok (.bipush 32, 2) := by decide +kernel
theorem dX6_leaveOut_184 : decode cX6_leaveOut 184 = .ok (.bipush 60, 2) := by decide +kernel
theorem dX6_leaveOut_186 : decode cX6_leaveOut 186 = .ok (.iload_n 1, 1) := by decide +kernel
theorem dX6_leaveOut_187 : decode cX6_leaveOut 187 = .ok (.imul, 1) := by decide +kernel
theorem dX6_leaveOut_188 : decode cX6_leaveOut 188 = .ok (.iload 11, 2) := by decide +kernel
theorem dX6_leaveOut_190 : decode cX6_leaveOut 190 = .ok (.iadd, 1) := by decide +kernel
theorem dX6_leaveOut_191 : decode cX6_leaveOut 191 = .ok (.imul, 1) := by decide +kernel
theorem dX6_leaveOut_192 : decode cX6_leaveOut 192 = .ok (.iload 12, 2) := by decide +kernel
theorem dX6_leaveOut_194 : decode cX6_leaveOut 194 = .ok (.bipush 32, 2) := by decide +kernel
theorem dX6_leaveOut_196 : decode cX6_leaveOut 196 = .ok (.idiv, 1) := by decide +kernel
theorem dX6_leaveOut_197 : decode cX6_leaveOut 197 = .ok (.iadd, 1) := by decide +kernel
theorem dX6_leaveOut_198 : decode cX6_leaveOut 198 = .ok (.dup2, 1) := by decide +kernel
theorem dX6_leaveOut_199 : decode cX6_leaveOut 199 = .ok (.iaload, 1) := by decide +kernel
theorem dX6_leaveOut_200 : decode cX6_leaveOut 200 = .ok (.iconst 1, 1) := by decide +kernel
theorem dX6_leaveOut_201 : decode cX6_leaveOut 201 = .ok (.iload 12, 2) := by decide +kernel
theorem dX6_leaveOut_203 : decode cX6_leaveOut 203 = .ok (.bipush 32, 2) := by decide +kernel
theorem dX6_leaveOut_205 : decode cX6_leaveOut 205 = .ok (.irem, 1) := by decide +kernel
theorem dX6_leaveOut_206 : decode cX6_leaveOut 206 = .ok (.ishl, 1) := by decide +kernel
theorem dX6_leaveOut_207 : decode cX6_leaveOut 207 = .ok (.ixor, 1) := by decide +kernel
theorem dX6_leaveOut_208 : decode cX6_leaveOut 208 = .ok (.iastore, 1) := by decide +kernel
theorem dX6_leaveOut_209 : decode cX6_leaveOut 209 = .ok (.iinc 8 1, 3) := by decide +kernel
theorem dX6_leaveOut_212 : decode cX6_leaveOut 212 = .ok (.iinc 9 1, 3) := by decide +kernel
theorem dX6_leaveOut_215 : decode cX6_leaveOut 215 = .ok (.iinc 12 1, 3) := by decide +kernel
theorem dX6_leaveOut_218 : decode cX6_leaveOut 218 = .ok (.goto (-89), 3) := by decide +kernel
theorem dX6_leaveOut_221 : decode cX6_leaveOut 221 = .ok (.iinc 10 1, 3) := by decide +kernel
theorem dX6_leaveOut_224 : decode cX6_leaveOut 224 = .ok (.goto (-125), 3) := by decide +kernel
theorem dX6_leaveOut_227 : decode cX6_leaveOut 227 = .ok (.iload 8, 2) := by decide +kernel
theorem dX6_leaveOut_229 : decode cX6_leaveOut 229 = .ok (.ireturn, 1) := by decide +kernel
theorem dX6_frames_0 : decode cX6_frames 0 = .ok (.aload_n 0, 1) := by decide +kernel
theorem dX6_frames_1 : decode cX6_frames 1 = .ok (.aload_n 0, 1) := by decide +kernel
theorem dX6_frames_2 : decode cX6_frames 2 = .ok (.iload_n 1, 1) := by decide +kernel
theorem dX6_frames_3 : decode cX6_frames 3 = .ok (.invokevirtual 175, 3) := by decide +kernel
theorem dX6_frames_6 : decode cX6_frames 6 = .ok (.ifCond .eq 7, 3) := by decide +kernel
theorem dX6_frames_9 : decode cX6_frames 9 = .ok (.iconst 0, 1) := by decide +kernel
theorem dX6_frames_10 : decode cX6_frames 10 = .ok (.goto 4, 3) := by decide +kernel
theorem dX6_frames_13 : decode cX6_frames 13 = .ok (.iconst 1, 1) := by decide +kernel
theorem dX6_frames_14 : decode cX6_frames 14 = .ok (.invokevirtual 103, 3) := by decide +kernel
theorem dX6_frames_17 : decode cX6_frames 17 = .ok (.ifCond .ne 5, 3) := by decide +kernel
theorem dX6_frames_20 : decode cX6_frames 20 = .ok (.iconst 0, 1) := by decide +kernel
theorem dX6_frames_21 : decode cX6_frames 21 = .ok (.ireturn, 1) := by decide +kernel
theorem dX6_frames_22 : decode cX6_frames 22 = .ok (.aload_n 0, 1) := by decide +kernel
theorem dX6_frames_23 : decode cX6_frames 23 = .ok (.getfield 56, 3) := by decide +kernel
theorem dX6_frames_26 : decode cX6_frames 26 = .ok (.iload_n 1, 1) := by decide +kernel
theorem dX6_frames_27 : decode cX6_frames 27 = .ok (.iaload, 1) := by decide +kernel
theorem dX6_frames_28 : decode cX6_frames 28 = .ok (.istore_n 2, 1) := by decide +kernel
theorem dX6_frames_29 : decode cX6_frames 29 = .ok (.iconst 0, 1) := by decide +kernel
theorem dX6_frames_30 : decode cX6_frames 30 = .ok (.istore_n 3, 1) := by decide +kernel
theorem dX6_frames_31 : decode cX6_frames 31 = .ok (.iconst 0, 1) := by decide +kernel
theorem dX6_frames_32 : decode cX6_frames 32 = .ok (.istore 4, 2) := by decide +kernel
theorem dX6_frames_34 : decode cX6_frames 34 = .ok (.iload 4, 2) := by decide +kernel
theorem dX6_frames_36 : decode cX6_frames 36 = .ok (.aload_n 0, 1) := by decide +kernel
theorem dX6_frames_37 : decode cX6_frames 37 = .ok (.getfield 13, 3) := by decide +kernel
theorem dX6_frames_40 : decode cX6_frames 40 = .ok (.iload_n 2, 1) := by decide +kernel
theorem dX6_frames_41 : decode cX6_frames 41 = .ok (.iaload, 1) := by decide +kernel
theorem dX6_frames_42 : decode cX6_frames 42 = .ok (.if_icmp .ge 75, 3) := by decide +kernel
theorem dX6_frames_45 : decode cX6_frames 45 = .ok (.aload_n 0, 1) := by decide +kernel
theorem dX6_frames_46 : decode cX6_frames 46 = .ok (.getfield 7, 3) := by decide +kernel
theorem dX6_frames_49 : decode cX6_frames 49 = .ok (.bipush 60, 2) := by decide +kernel
theorem dX6_frames_51 : decode cX6_frames 51 = .ok (.iload_n 2, 1) := by decide +kernel
theorem dX6_frames_52 : decode cX6_frames 52 = .ok (.imul, 1) := by decide +kernel
theorem dX6_frames_53 : decode cX6_frames 53 = .ok (.iload 4, 2) := by decide +kernel
theorem dX6_frames_55 : decode cX6_frames 55 = .ok (.iadd, 1) := by decide +kernel
theorem dX6_frames_56 : decode cX6_frames 56 = .ok (.iaload, 1) := by decide +kernel
theorem dX6_frames_57 : decode cX6_frames 57 = .ok (.istore 5, 2) := by decide +kernel
theorem dX6_frames_59 : decode cX6_frames 59 = .ok (.iconst 0, 1) := by decide +kernel
theorem dX6_frames_60 : decode cX6_frames 60 = .ok (.istore 6, 2) := by decide +kernel
theorem dX6_frames_62 : decode cX6_frames 62 = .ok (.iload 6, 2) := by decide +kernel
theorem dX6_frames_64 : decode cX6_frames 64 = .ok (.aload_n 0, 1) := by decide +kernel
theorem dX6_frames_65 : decode cX6_frames 65 = .ok (.getfield 19, 3) := by decide +kernel
theorem dX6_frames_68 : decode cX6_frames 68 = .ok (.iload 5, 2) := by decide +kernel
theorem dX6_frames_70 : decode cX6_frames 70 = .ok (.iaload, 1) := by decide +kernel
theorem dX6_frames_71 : decode cX6_frames 71 = .ok (.if_icmp .ge 40, 3) := by decide +kernel
theorem dX6_frames_74 : decode cX6_frames 74 = .ok (.aload_n 0, 1) := by decide +kernel
theorem dX6_frames_75 : decode cX6_frames 75 = .ok (.getfield 25, 3) := by decide +kernel
theorem dX6_frames_78 : decode cX6_frames 78 = .ok (.iload 5, 2) := by decide +kernel
theorem dX6_frames_80 : decode cX6_frames 80 = .ok (.iaload, 1) := by decide +kernel
theorem dX6_frames_81 : decode cX6_frames 81 = .ok (.iconst (-1), 1) := by decide +kernel
theorem dX6_frames_82 : decode cX6_frames 82 = .ok (.if_icmp .eq 29, 3) := by decide +kernel
theorem dX6_frames_85 : decode cX6_frames 85 = .ok (.iload_n 3, 1) := by decide +kernel
theorem dX6_frames_86 : decode cX6_frames 86 = .ok (.aload_n 0, 1) := by decide +kernel
theorem dX6_frames_87 : decode cX6_frames 87 = .ok (.iload_n 1, 1) := by decide +kernel
theorem dX6_frames_88 : decode cX6_frames 88 = .ok (.iload 5, 2) := by decide +kernel
theorem dX6_frames_90 : decode cX6_frames 90 = .ok (.iload 6, 2) := by decide +kernel
theorem dX6_frames_92 : decode cX6_frames 92 = .ok (.invokevirtual 178, 3) := by decide +kernel
theorem dX6_frames_95 : decode cX6_frames 95 = .ok (.ifCond .eq 7, 3) := by decide +kernel
theorem dX6_frames_98 : decode cX6_frames 98 = .ok (.iconst 0, 1) := by decide +kernel
theorem dX6_frames_99 : decode cX6_frames 99 = .ok (.goto 4, 3) := by decide +kernel
theorem dX6_frames_102 : decode cX6_frames 102 = .ok (.iconst 1, 1) := by decide +kernel
theorem dX6_frames_103 : decode cX6_frames 103 = .ok (.iadd, 1) := by decide +kernel
theorem dX6_frames_104 : decode cX6_frames 104 = .ok (.istore_n 3, 1) := by decide +kernel
theorem dX6_frames_105 : decode cX6_frames 105 = .ok (.iinc 6 1, 3) := by decide +kernel
theorem dX6_frames_108 : decode cX6_frames 108 = .ok (.goto (-46), 3) := by decide +kernel
theorem dX6_frames_111 : decode cX6_frames 111 = .ok (.iinc 4 1, 3) := by decide +kernel
theorem dX6_frames_114 : decode cX6_frames 114 = .ok (.goto (-80), 3) := by decide +kernel
theorem dX6_frames_117 : decode cX6_frames 117 = .ok (.iload_n 3, 1) := by decide +kernel
theorem dX6_frames_118 : decode cX6_frames 118 = .ok (.ireturn, 1) := by decide +kernel
theorem dX6_lend_0 : decode cX6_lend 0 = .ok (.aload_n 0, 1) := by decide +kernel
theorem dX6_lend_1 : decode cX6_lend 1 = .ok (.iload_n 1, 1) := by decide +kernel
theorem dX6_lend_2 : decode cX6_lend 2 = .ok (.invokevirtual 175, 3) := by decide +kernel
theorem dX6_lend_5 : decode cX6_lend 5 = .ok (.istore 5, 2) := by decide +kernel
theorem dX6_lend_7 : decode cX6_lend 7 = .ok (.iload_n 2, 1) := by decide +kernel
theorem dX6_lend_8 : decode cX6_lend 8 = .ok (.iconst 1, 1) := by decide +kernel
theorem dX6_lend_9 : decode cX6_lend 9 = .ok (.bipush 9, 2) := by decide +kernel
theorem dX6_lend_11 : decode cX6_lend 11 = .ok (.invokestatic 87, 3) := by decide +kernel
theorem dX6_lend_14 : decode cX6_lend 14 = .ok (.ifCond .eq 27, 3) := by decide +kernel
theorem dX6_lend_17 : decode cX6_lend 17 = .ok (.iload_n 3, 1) := by decide +kernel
theorem dX6_lend_18 : decode cX6_lend 18 = .ok (.iconst 0, 1) := by decide +kernel
theorem dX6_lend_19 : decode cX6_lend 19 = .ok (.iconst 3, 1) := by decide +kernel
theorem dX6_lend_20 : decode cX6_lend 20 = .ok (.invokestatic 87, 3) := by decide +kernel
theorem dX6_lend_23 : decode cX6_lend 23 = .ok (.ifCond .eq 18, 3) := by decide +kernel
theorem dX6_lend_26 : decode cX6_lend 26 = .ok (.iload 4, 2) := by decide +kernel
theorem dX6_lend_28 : decode cX6_lend 28 = .ok (.iconst 1, 1) := by decide +kernel
theorem dX6_lend_29 : decode cX6_lend 29 = .ok (.bipush 99, 2) := by decide +kernel
theorem dX6_lend_31 : decode cX6_lend 31 = .ok (.invokestatic 87, 3) := by decide +kernel
theorem dX6_lend_34 : decode cX6_lend 34 = .ok (.ifCond .eq 7, 3) := by decide +kernel
theorem dX6_lend_37 : decode cX6_lend 37 = .ok (.iconst 1, 1) := by decide +kernel
theorem dX6_lend_38 : decode cX6_lend 38 = .ok (.goto 4, 3) := by decide +kernel
theorem dX6_lend_41 : decode cX6_lend 41 = .ok (.iconst 0, 1) := by decide +kernel
theorem dX6_lend_42 : decode cX6_lend 42 = .ok (.istore 6, 2) := by decide +kernel
theorem dX6_lend_44 : decode cX6_lend 44 = .ok (.iload 5, 2) := by decide +kernel
theorem dX6_lend_46 : decode cX6_lend 46 = .ok (.ifCond .eq 20, 3) := by decide +kernel
theorem dX6_lend_49 : decode cX6_lend 49 = .ok (.aload_n 0, 1) := by decide +kernel
theorem dX6_lend_50 : decode cX6_lend 50 = .ok (.aload_n 0, 1) := by decide +kernel
theorem dX6_lend_51 : decode cX6_lend 51 = .ok (.getfield 56, 3) := by decide +kernel
theorem dX6_lend_54 : decode cX6_lend 54 = .ok (.iload_n 1, 1) := by decide +kernel
theorem dX6_lend_55 : decode cX6_lend 55 = .ok (.iaload, 1) := by decide +kernel
theorem dX6_lend_56 : decode cX6_lend 56 = .ok (.invokevirtual 131, 3) := by decide +kernel
theorem dX6_lend_59 : decode cX6_lend 59 = .ok (.ifCond .ne 7, 3) := by decide +kernel
theorem dX6_lend_62 : decode cX6_lend 62 = .ok (.iconst 1, 1) := by decide +kernel
theorem dX6_lend_63 : decode cX6_lend 63 = .ok (.goto 4, 3) := by decide +kernel
theorem dX6_lend_66 : decode cX6_lend 66 = .ok (.iconst 0, 1) := by decide +kernel
theorem dX6_lend_67 : decode cX6_lend 67 = .ok (.istore 7, 2) := by decide +kernel
theorem dX6_lend_69 : decode cX6_lend 69 = .ok (.iconst 0, 1) := by decide +kernel
theorem dX6_lend_70 : decode cX6_lend 70 = .ok (.istore 8, 2) := by decide +kernel
theorem dX6_lend_72 : decode cX6_lend 72 = .ok (.iload 8, 2) := by decide +kernel
theorem dX6_lend_74 : decode cX6_lend 74 = .ok (.aload_n 0, 1) := by decide +kernel
theorem dX6_lend_75 : decode cX6_lend 75 = .ok (.getfield 94, 3) := by decide +kernel
theorem dX6_lend_78 : decode cX6_lend 78 = .ok (.if_icmp .ge 56, 3) := by decide +kernel
theorem dX6_lend_81 : decode cX6_lend 81 = .ok (.iload 7, 2) := by decide +kernel
theorem dX6_lend_83 : decode cX6_lend 83 = .ok (.ifCond .eq 51, 3) := by decide +kernel
theorem dX6_lend_86 : decode cX6_lend 86 = .ok (.iload 6, 2) := by decide +kernel
theorem dX6_lend_88 : decode cX6_lend 88 = .ok (.ifCond .eq 46, 3) := by decide +kernel
theorem dX6_lend_91 : decode cX6_lend 91 = .ok (.aload_n 0, 1) := by decide +kernel
theorem dX6_lend_92 : decode cX6_lend 92 = .ok (.getfield 40, 3) := by decide +kernel
theorem dX6_lend_95 : decode cX6_lend 95 = .ok (.iload 8, 2) := by decide +kernel
theorem dX6_lend_97 : decode cX6_lend 97 = .ok (.iaload, 1) := by decide +kernel
theorem dX6_lend_98 : decode cX6_lend 98 = .ok (.aload_n 0, 1) := by decide +kernel
theorem dX6_lend_99 : decode cX6_lend 99 = .ok (.getfield 56, 3) := by decide +kernel
theorem dX6_lend_102 : decode cX6_lend 102 = .ok (.iload_n 1, 1) := by decide +kernel
theorem dX6_lend_103 : decode cX6_lend 103 = .ok (.iaload, 1) := by decide +kernel
theorem dX6_lend_104 : decode cX6_lend 104 = .ok (.if_icmp .ne 17, 3) := by decide +kernel
theorem dX6_lend_107 : decode cX6_lend 107 = .ok (.aload_n 0, 1) := by decide +kernel
theorem dX6_lend_108 : decode cX6_lend 108 = .ok (.iload 8, 2) := by decide +kernel
theorem dX6_lend_110 : decode cX6_lend 110 = .ok (.iload_n 2, 1) := by decide +kernel
theorem dX6_lend_111 : decode cX6_lend 111 = .ok (.iconst 1, 1) := by decide +kernel
theorem dX6_lend_112 : decode cX6_lend 112 = .ok (.iload_n 3, 1) := by decide +kernel
theorem dX6_lend_113 : decode cX6_lend 113 = .ok (.iadd, 1) := by decide +kernel
theorem dX6_lend_114 : decode cX6_lend 114 = .ok (.imul, 1) := by decide +kernel
theorem dX6_lend_115 : decode cX6_lend 115 = .ok (.invokevirtual 159, 3) := by decide +kernel
theorem dX6_lend_118 : decode cX6_lend 118 = .ok (.ifCond .eq 7, 3) := by decide +kernel
theorem dX6_lend_121 : decode cX6_lend 121 = .ok (.iconst 1, 1) := by decide +kernel
theorem dX6_lend_122 : decode cX6_lend 122 = .ok (.goto 4, 3) := by decide +kernel
theorem dX6_lend_125 : decode cX6_lend 125 = .ok (.iconst 0, 1) := by decide +kernel
theorem dX6_lend_126 : decode cX6_lend 126 = .ok (.istore 7, 2) := by decide +kernel
theorem dX6_lend_128 : decode cX6_lend 128 = .ok (.iinc 8 1, 3) := by decide +kernel
theorem dX6_lend_131 : decode cX6_lend 131 = .ok (.goto (-59), 3) := by decide +kernel
theorem dX6_lend_134 : decode cX6_lend 134 = .ok (.aload_n 0, 1) := by decide +kernel
theorem dX6_lend_135 : decode cX6_lend 135 = .ok (.iload 5, 2) := by decide +kernel
theorem dX6_lend_137 : decode cX6_lend 137 = .ok (.ifCond .ne 7, 3) := by decide +kernel
theorem dX6_lend_140 : decode cX6_lend 140 = .ok (.iconst 1, 1) := by decide +kernel
theorem dX6_lend_141 : decode cX6_lend 141 = .ok (.goto 35, 3) := by decide +kernel
theorem dX6_lend_144 : decode cX6_lend 144 = .ok (.iload 6, 2) := by decide +kernel
theorem dX6_lend_146 : decode cX6_lend 146 = .ok (.ifCond .ne 7, 3) := by decide +kernel
theorem dX6_lend_149 : decode cX6_lend 149 = .ok (.iconst 2, 1) := by decide +kernel
theorem dX6_lend_150 : decode cX6_lend 150 = .ok (.goto 26, 3) := by decide +kernel
theorem dX6_lend_153 : decode cX6_lend 153 = .ok (.iload 7, 2) := by decide +kernel
theorem dX6_lend_155 : decode cX6_lend 155 = .ok (.ifCond .ne 7, 3) := by decide +kernel
theorem dX6_lend_158 : decode cX6_lend 158 = .ok (.iconst 3, 1) := by decide +kernel
theorem dX6_lend_159 : decode cX6_lend 159 = .ok (.goto 17, 3) := by decide +kernel
theorem dX6_lend_162 : decode cX6_lend 162 = .ok (.aload_n 0, 1) := by decide +kernel
theorem dX6_lend_163 : decode cX6_lend 163 = .ok (.getfield 100, 3) := by decide +kernel
theorem dX6_lend_166 : decode cX6_lend 166 = .ok (.bipush 20, 2) := by decide +kernel
theorem dX6_lend_168 : decode cX6_lend 168 = .ok (.if_icmp .ne 7, 3) := by decide +kernel
theorem dX6_lend_171 : decode cX6_lend 171 = .ok (.iconst 4, 1) := by decide +kernel
theorem dX6_lend_172 : decode cX6_lend 172 = .ok (.goto 4, 3) := by decide +kernel
theorem dX6_lend_175 : decode cX6_lend 175 = .ok (.iconst 0, 1) := by decide +kernel
theorem dX6_lend_176 : decode cX6_lend 176 = .ok (.invokevirtual 103, 3) := by decide +kernel
theorem dX6_lend_179 : decode cX6_lend 179 = .ok (.ifCond .ne 5, 3) := by decide +kernel
theorem dX6_lend_182 : decode cX6_lend 182 = .ok (.iconst 0, 1) := by decide +kernel
theorem dX6_lend_183 : decode cX6_lend 183 = .ok (.ireturn, 1) := by decide +kernel
theorem dX6_lend_184 : decode cX6_lend 184 = .ok (.aload_n 0, 1) := by decide +kernel
theorem dX6_lend_185 : decode cX6_lend 185 = .ok (.getfield 65, 3) := by decide +kernel
theorem dX6_lend_188 : decode cX6_lend 188 = .ok (.aload_n 0, 1) := by decide +kernel
theorem dX6_lend_189 : decode cX6_lend 189 = .ok (.getfield 100, 3) := by decide +kernel
theorem dX6_lend_192 : decode cX6_lend 192 = .ok (.iload_n 1, 1) := by decide +kernel
theorem dX6_lend_193 : decode cX6_lend 193 = .ok (.iastore, 1) := by decide +kernel
theorem dX6_lend_194 : decode cX6_lend 194 = .ok (.aload_n 0, 1) := by decide +kernel
theorem dX6_lend_195 : decode cX6_lend 195 = .ok (.getfield 68, 3) := by decide +kernel
theorem dX6_lend_198 : decode cX6_lend 198 = .ok (.aload_n 0, 1) := by decide +kernel
theorem dX6_lend_199 : decode cX6_lend 199 = .ok (.getfield 100, 3) := by decide +kernel
theorem dX6_lend_202 : decode cX6_lend 202 = .ok (.iload_n 2, 1) := by decide +kernel
theorem dX6_lend_203 : decode cX6_lend 203 = .ok (.iastore, 1) := by decide +kernel
theorem dX6_lend_204 : decode cX6_lend 204 = .ok (.aload_n 0, 1) := by decide +kernel
theorem dX6_lend_205 : decode cX6_lend 205 = .ok (.getfield 71, 3) := by decide +kernel
theorem dX6_lend_208 : decode cX6_lend 208 = .ok (.aload_n 0, 1) := by decide +kernel
theorem dX6_lend_209 : decode cX6_lend 209 = .ok (.getfield 100, 3) := by decide +kernel
theorem dX6_lend_212 : decode cX6_lend 212 = .ok (.iload_n 3, 1) := by decide +kernel
theorem dX6_lend_213 : decode cX6_lend 213 = .ok (.iastore, 1) := by decide +kernel
theorem dX6_lend_214 : decode cX6_lend 214 = .ok (.aload_n 0, 1) := by decide +kernel
theorem dX6_lend_215 : decode cX6_lend 215 = .ok (.getfield 74, 3) := by decide +kernel
theorem dX6_lend_218 : decode cX6_lend 218 = .ok (.aload_n 0, 1) := by decide +kernel
theorem dX6_lend_219 : decode cX6_lend 219 = .ok (.getfield 100, 3) := by decide +kernel
theorem dX6_lend_222 : decode cX6_lend 222 = .ok (.aload_n 0, 1) := by decide +kernel
theorem dX6_lend_223 : decode cX6_lend 223 = .ok (.getfield 181, 3) := by decide +kernel
theorem dX6_lend_226 : decode cX6_lend 226 = .ok (.iload 4, 2) := by decide +kernel
theorem dX6_lend_228 : decode cX6_lend 228 = .ok (.iadd, 1) := by decide +kernel
theorem dX6_lend_229 : decode cX6_lend 229 = .ok (.iastore, 1) := by decide +kernel
theorem dX6_lend_230 : decode cX6_lend 230 = .ok (.aload_n 0, 1) := by decide +kernel
theorem dX6_lend_231 : decode cX6_lend 231 = .ok (.dup, 1) := by decide +kernel
theorem dX6_lend_232 : decode cX6_lend 232 = .ok (.getfield 100, 3) := by decide +kernel
theorem dX6_lend_235 : decode cX6_lend 235 = .ok (.iconst 1, 1) := by decide +kernel
theorem dX6_lend_236 : decode cX6_lend 236 = .ok (.iadd, 1) := by decide +kernel
theorem dX6_lend_237 : decode cX6_lend 237 = .ok (.putfield 100, 3) := by decide +kernel
theorem dX6_lend_240 : decode cX6_lend 240 = .ok (.aload_n 0, 1) := by decide +kernel
theorem dX6_lend_241 : decode cX6_lend 241 = .ok (.getfield 100, 3) := by decide +kernel
theorem dX6_lend_244 : decode cX6_lend 244 = .ok (.iconst 1, 1) := by decide +kernel
theorem dX6_lend_245 : decode cX6_lend 245 = .ok (.isub, 1) := by decide +kernel
theorem dX6_lend_246 : decode cX6_lend 246 = .ok (.ireturn, 1) := by decide +kernel
theorem dX6_isLoan_0 : decode cX6_isLoan 0 = .ok (.iload_n 1, 1) := by decide +kernel
theorem dX6_isLoan_1 : decode cX6_isLoan 1 = .ok (.iconst 0, 1) := by decide +kernel
theorem dX6_isLoan_2 : decode cX6_isLoan 2 = .ok (.aload_n 0, 1) := by decide +kernel
theorem dX6_isLoan_3 : decode cX6_isLoan 3 = .ok (.getfield 100, 3) := by decide +kernel
theorem dX6_isLoan_6 : decode cX6_isLoan 6 = .ok (.iconst 1, 1) := by decide +kernel
theorem dX6_isLoan_7 : decode cX6_isLoan 7 = .ok (.isub, 1) := by decide +kernel
theorem dX6_isLoan_8 : decode cX6_isLoan 8 = .ok (.invokestatic 87, 3) := by decide +kernel
theorem dX6_isLoan_11 : decode cX6_isLoan 11 = .ok (.ireturn, 1) := by decide +kernel
theorem dX6_show_0 : decode cX6_show 0 = .ok (.aload_n 0, 1) := by decide +kernel
theorem dX6_show_1 : decode cX6_show 1 = .ok (.iload_n 1, 1) := by decide +kernel
theorem dX6_show_2 : decode cX6_show 2 = .ok (.invokevirtual 184, 3) := by decide +kernel
theorem dX6_show_5 : decode cX6_show 5 = .ok (.istore_n 2, 1) := by decide +kernel
theorem dX6_show_6 : decode cX6_show 6 = .ok (.aload_n 0, 1) := by decide +kernel
theorem dX6_show_7 : decode cX6_show 7 = .ok (.iload_n 2, 1) := by decide +kernel
theorem dX6_show_8 : decode cX6_show 8 = .ok (.ifCond .ne 7, 3) := by decide +kernel
theorem dX6_show_11 : decode cX6_show 11 = .ok (.iconst 1, 1) := by decide +kernel
theorem dX6_show_12 : decode cX6_show 12 = .ok (.goto 26, 3) := by decide +kernel
theorem dX6_show_15 : decode cX6_show 15 = .ok (.aload_n 0, 1) := by decide +kernel
theorem dX6_show_16 : decode cX6_show 16 = .ok (.getfield 77, 3) := by decide +kernel
theorem dX6_show_19 : decode cX6_show 19 = .ok (.iload_n 1, 1) := by decide +kernel
theorem dX6_show_20 : decode cX6_show 20 = .ok (.baload, 1) := by decide +kernel
theorem dX6_show_21 : decode cX6_show 21 = .ok (.ifCond .ne 12, 3) := by decide +kernel
theorem dX6_show_24 : decode cX6_show 24 = .ok (.aload_n 0, 1) := by decide +kernel
theorem dX6_show_25 : decode cX6_show 25 = .ok (.getfield 68, 3) := by decide +kernel
theorem dX6_show_28 : decode cX6_show 28 = .ok (.iload_n 1, 1) := by decide +kernel
theorem dX6_show_29 : decode cX6_show 29 = .ok (.iaload, 1) := by decide +kernel
theorem dX6_show_30 : decode cX6_show 30 = .ok (.ifCond .ne 7, 3) := by decide +kernel
theorem dX6_show_33 : decode cX6_show 33 = .ok (.iconst 2, 1) := by decide +kernel
theorem dX6_show_34 : decode cX6_show 34 = .ok (.goto 4, 3) := by decide +kernel
theorem dX6_show_37 : decode cX6_show 37 = .ok (.iconst 0, 1) := by decide +kernel
theorem dX6_show_38 : decode cX6_show 38 = .ok (.invokevirtual 103, 3) := by decide +kernel
theorem dX6_show_41 : decode cX6_show 41 = .ok (.ifCond .ne 5, 3) := by decide +kernel
theorem dX6_show_44 : decode cX6_show 44 = .ok (.iconst 0, 1) := by decide +kernel
theorem dX6_show_45 : decode cX6_show 45 = .ok (.ireturn, 1) := by decide +kernel
theorem dX6_show_46 : decode cX6_show 46 = .ok (.iconst 0, 1) := by decide +kernel
theorem dX6_show_47 : decode cX6_show 47 = .ok (.istore_n 3, 1) := by decide +kernel
theorem dX6_show_48 : decode cX6_show 48 = .ok (.iload_n 3, 1) := by decide +kernel
theorem dX6_show_49 : decode cX6_show 49 = .ok (.aload_n 0, 1) := by decide +kernel
theorem dX6_show_50 : decode cX6_show 50 = .ok (.getfield 94, 3) := by decide +kernel
theorem dX6_show_53 : decode cX6_show 53 = .ok (.if_icmp .ge 42, 3) := by decide +kernel
theorem dX6_show_56 : decode cX6_show 56 = .ok (.aload_n 0, 1) := by decide +kernel
theorem dX6_show_57 : decode cX6_show 57 = .ok (.getfield 40, 3) := by decide +kernel
theorem dX6_show_60 : decode cX6_show 60 = .ok (.iload_n 3, 1) := by decide +kernel
theorem dX6_show_61 : decode cX6_show 61 = .ok (.iaload, 1) := by decide +kernel
theorem dX6_show_62 : decode cX6_show 62 = .ok (.aload_n 0, 1) := by decide +kernel
theorem dX6_show_63 : decode cX6_show 63 = .ok (.getfield 56, 3) := by decide +kernel
theorem dX6_show_66 : decode cX6_show 66 = .ok (.aload_n 0, 1) := by decide +kernel
theorem dX6_show_67 : decode cX6_show 67 = .ok (.getfield 65, 3) := by decide +kernel
theorem dX6_show_70 : decode cX6_show 70 = .ok (.iload_n 1, 1) := by decide +kernel
theorem dX6_show_71 : decode cX6_show 71 = .ok (.iaload, 1) := by decide +kernel
theorem dX6_show_72 : decode cX6_show 72 = .ok (.iaload, 1) := by decide +kernel
theorem dX6_show_73 : decode cX6_show 73 = .ok (.if_icmp .ne 16, 3) := by decide +kernel
theorem dX6_show_76 : decode cX6_show 76 = .ok (.aload_n 0, 1) := by decide +kernel
theorem dX6_show_77 : decode cX6_show 77 = .ok (.iload_n 3, 1) := by decide +kernel
theorem dX6_show_78 : decode cX6_show 78 = .ok (.iconst 1, 1) := by decide +kernel
theorem dX6_show_79 : decode cX6_show 79 = .ok (.aload_n 0, 1) := by decide +kernel
theorem dX6_show_80 : decode cX6_show 80 = .ok (.getfield 71, 3) := by decide +kernel
theorem dX6_show_83 : decode cX6_show 83 = .ok (.iload_n 1, 1) := by decide +kernel
theorem dX6_show_84 : decode cX6_show 84 = .ok (.iaload, 1) := by decide +kernel
theorem dX6_show_85 : decode cX6_show 85 = .ok (.iadd, 1) := by decide +kernel
theorem dX6_show_86 : decode cX6_show 86 = .ok (.invokevirtual 162, 3) := by decide +kernel
theorem dX6_show_89 : decode cX6_show 89 = .ok (.iinc 3 1, 3) := by decide +kernel
theorem dX6_show_92 : decode cX6_show 92 = .ok (.goto (-44), 3) := by decide +kernel
theorem dX6_show_95 : decode cX6_show 95 = .ok (.aload_n 0, 1) := by decide +kernel
theorem dX6_show_96 : decode cX6_show 96 = .ok (.getfield 68, 3) := by decide +kernel
theorem dX6_show_99 : decode cX6_show 99 = .ok (.iload_n 1, 1) := by decide +kernel
theorem dX6_show_100 : decode cX6_show 100 = .ok (.dup2, 1) := by decide +kernel
theorem dX6_show_101 : decode cX6_show 101 = .ok (.iaload, 1) := by decide +kernel
theorem dX6_show_102 : decode cX6_show 102 = .ok (.iconst 1, 1) := by decide +kernel
theorem dX6_show_103 : decode cX6_show 103 = .ok (.isub, 1) := by decide +kernel
theorem dX6_show_104 : decode cX6_show 104 = .ok (.iastore, 1) := by decide +kernel
theorem dX6_show_105 : decode cX6_show 105 = .ok (.aload_n 0, 1) := by decide +kernel
theorem dX6_show_106 : decode cX6_show 106 = .ok (.getfield 68, 3) := by decide +kernel
theorem dX6_show_109 : decode cX6_show 109 = .ok (.iload_n 1, 1) := by decide +kernel
theorem dX6_show_110 : decode cX6_show 110 = .ok (.iaload, 1) := by decide +kernel
theorem dX6_show_111 : decode cX6_show 111 = .ok (.ireturn, 1) := by decide +kernel
theorem dX6_giveBack_0 : decode cX6_giveBack 0 = .ok (.aload_n 0, 1) := by decide +kernel
theorem dX6_giveBack_1 : decode cX6_giveBack 1 = .ok (.iload_n 1, 1) := by decide +kernel
theorem dX6_giveBack_2 : decode cX6_giveBack 2 = .ok (.invokevirtual 184, 3) := by decide +kernel
theorem dX6_giveBack_5 : decode cX6_giveBack 5 = .ok (.istore_n 2, 1) := by decide +kernel
theorem dX6_giveBack_6 : decode cX6_giveBack 6 = .ok (.aload_n 0, 1) := by decide +kernel
theorem dX6_giveBack_7 : decode cX6_giveBack 7 = .ok (.iload_n 2, 1) := by decide +kernel
theorem dX6_giveBack_8 : decode cX6_giveBack 8 = .ok (.ifCond .ne 7, 3) := by decide +kernel
theorem dX6_giveBack_11 : decode cX6_giveBack 11 = .ok (.iconst 1, 1) := by decide +kernel
theorem dX6_giveBack_12 : decode cX6_giveBack 12 = .ok (.goto 17, 3) := by decide +kernel
theorem dX6_giveBack_15 : decode cX6_giveBack 15 = .ok (.aload_n 0, 1) := by decide +kernel
theorem dX6_giveBack_16 : decode cX6_giveBack 16 = .ok (.getfield 77, 3) := by decide +kernel
theorem dX6_giveBack_19 : decode cX6_giveBack 19 = .ok (.iload_n 1, 1) := by decide +kernel
theorem dX6_giveBack_20 : decode cX6_giveBack 20 = .ok (.baload, 1) := by decide +kernel
theorem dX6_giveBack_21 : decode cX6_giveBack 21 = .ok (.ifCond .eq 7, 3) := by decide +kernel
theorem dX6_giveBack_24 : decode cX6_giveBack 24 = .ok (.iconst 2, 1) := by decide +kernel
theorem dX6_giveBack_25 : decode cX6_giveBack 25 = .ok (.goto 4, 3) := by decide +kernel
theorem dX6_giveBack_28 : decode cX6_giveBack 28 = .ok (.iconst 0, 1) := by decide +kernel
theorem dX6_giveBack_29 : decode cX6_giveBack 29 = .ok (.invokevirtual 103, 3) := by decide +kernel
theorem dX6_giveBack_32 : decode cX6_giveBack 32 = .ok (.ifCond .ne 5, 3) := by decide +kernel
theorem dX6_giveBack_35 : decode cX6_giveBack 35 = .ok (.iconst 0, 1) := by decide +kernel
theorem dX6_giveBack_36 : decode cX6_giveBack 36 = .ok (.ireturn, 1) := by decide +kernel
theorem dX6_giveBack_37 : decode cX6_giveBack 37 = .ok (.aload_n 0, 1) := by decide +kernel
theorem dX6_giveBack_38 : decode cX6_giveBack 38 = .ok (.getfield 77, 3) := by decide +kernel
theorem dX6_giveBack_41 : decode cX6_giveBack 41 = .ok (.iload_n 1, 1) := by decide +kernel
theorem dX6_giveBack_42 : decode cX6_giveBack 42 = .ok (.iconst 1, 1) := by decide +kernel
theorem dX6_giveBack_43 : decode cX6_giveBack 43 = .ok (.bastore, 1) := by decide +kernel
theorem dX6_giveBack_44 : decode cX6_giveBack 44 = .ok (.aload_n 0, 1) := by decide +kernel
theorem dX6_giveBack_45 : decode cX6_giveBack 45 = .ok (.getfield 181, 3) := by decide +kernel
theorem dX6_giveBack_48 : decode cX6_giveBack 48 = .ok (.aload_n 0, 1) := by decide +kernel
theorem dX6_giveBack_49 : decode cX6_giveBack 49 = .ok (.getfield 74, 3) := by decide +kernel
theorem dX6_giveBack_52 : decode cX6_giveBack 52 = .ok (.iload_n 1, 1) := by decide +kernel
theorem dX6_giveBack_53 : decode cX6_giveBack 53 = .ok (.iaload, 1) := by decide +kernel
theorem dX6_giveBack_54 : decode cX6_giveBack 54 = .ok (.if_icmp .le 17, 3) := by decide +kernel
theorem dX6_giveBack_57 : decode cX6_giveBack 57 = .ok (.aload_n 0, 1) := by decide +kernel
theorem dX6_giveBack_58 : decode cX6_giveBack 58 = .ok (.getfield 181, 3) := by decide +kernel
theorem dX6_giveBack_61 : decode cX6_giveBack 61 = .ok (.aload_n 0, 1) := by decide +kernel
theorem dX6_giveBack_62 : decode cX6_giveBack 62 = .ok (.getfield 74, 3) := by decide +kernel
theorem dX6_giveBack_65 : decode cX6_giveBack 65 = .ok (.iload_n 1, 1) := by decide +kernel
theorem dX6_giveBack_66 : decode cX6_giveBack 66 = .ok (.iaload, 1) := by decide +kernel
theorem dX6_giveBack_67 : decode cX6_giveBack 67 = .ok (.isub, 1) := by decide +kernel
theorem dX6_giveBack_68 : decode cX6_giveBack 68 = .ok (.goto 4, 3) := by decide +kernel
theorem dX6_giveBack_71 : decode cX6_giveBack 71 = .ok (.iconst 0, 1) := by decide +kernel
theorem dX6_giveBack_72 : decode cX6_giveBack 72 = .ok (.ireturn, 1) := by decide +kernel
theorem dX6_advance_0 : decode cX6_advance 0 = .ok (.aload_n 0, 1) := by decide +kernel
theorem dX6_advance_1 : decode cX6_advance 1 = .ok (.iload_n 1, 1) := by decide +kernel
theorem dX6_advance_2 : decode cX6_advance 2 = .ok (.iconst 1, 1) := by decide +kernel
theorem dX6_advance_3 : decode cX6_advance 3 = .ok (.bipush 99, 2) := by decide +kernel
theorem dX6_advance_5 : decode cX6_advance 5 = .ok (.invokestatic 87, 3) := by decide +kernel
theorem dX6_advance_8 : decode cX6_advance 8 = .ok (.ifCond .eq 7, 3) := by decide +kernel
theorem dX6_advance_11 : decode cX6_advance 11 = .ok (.iconst 0, 1) := by decide +kernel
theorem dX6_advance_12 : decode cX6_advance 12 = .ok (.goto 4, 3) := by decide +kernel
theorem dX6_advance_15 : decode cX6_advance 15 = .ok (.iconst 1, 1) := by decide +kernel
theorem dX6_advance_16 : decode cX6_advance 16 = .ok (.invokevirtual 103, 3) := by decide +kernel
theorem dX6_advance_19 : decode cX6_advance 19 = .ok (.ifCond .ne 5, 3) := by decide +kernel
theorem dX6_advance_22 : decode cX6_advance 22 = .ok (.iconst 0, 1) := by decide +kernel
theorem dX6_advance_23 : decode cX6_advance 23 = .ok (.ireturn, 1) := by decide +kernel
theorem dX6_advance_24 : decode cX6_advance 24 = .ok (.aload_n 0, 1) := by decide +kernel
theorem dX6_advance_25 : decode cX6_advance 25 = .ok (.dup, 1) := by decide +kernel
theorem dX6_advance_26 : decode cX6_advance 26 = .ok (.getfield 181, 3) := by decide +kernel
theorem dX6_advance_29 : decode cX6_advance 29 = .ok (.iload_n 1, 1) := by decide +kernel
theorem dX6_advance_30 : decode cX6_advance 30 = .ok (.iadd, 1) := by decide +kernel
theorem dX6_advance_31 : decode cX6_advance 31 = .ok (.putfield 181, 3) := by decide +kernel
theorem dX6_advance_34 : decode cX6_advance 34 = .ok (.iconst 0, 1) := by decide +kernel
theorem dX6_advance_35 : decode cX6_advance 35 = .ok (.istore_n 2, 1) := by decide +kernel
theorem dX6_advance_36 : decode cX6_advance 36 = .ok (.iconst 0, 1) := by decide +kernel
theorem dX6_advance_37 : decode cX6_advance 37 = .ok (.istore_n 3, 1) := by decide +kernel
theorem dX6_advance_38 : decode cX6_advance 38 = .ok (.iload_n 3, 1) := by decide +kernel
theorem dX6_advance_39 : decode cX6_advance 39 = .ok (.aload_n 0, 1) := by decide +kernel
theorem dX6_advance_40 : decode cX6_advance 40 = .ok (.getfield 100, 3) := by decide +kernel
theorem dX6_advance_43 : decode cX6_advance 43 = .ok (.if_icmp .ge 39, 3) := by decide +kernel
theorem dX6_advance_46 : decode cX6_advance 46 = .ok (.iload_n 2, 1) := by decide +kernel
theorem dX6_advance_47 : decode cX6_advance 47 = .ok (.aload_n 0, 1) := by decide +kernel
theorem dX6_advance_48 : decode cX6_advance 48 = .ok (.getfield 77, 3) := by decide +kernel
theorem dX6_advance_51 : decode cX6_advance 51 = .ok (.iload_n 3, 1) := by decide +kernel
theorem dX6_advance_52 : decode cX6_advance 52 = .ok (.baload, 1) := by decide +kernel
theorem dX6_advance_53 : decode cX6_advance 53 = .ok (.ifCond .ne 20, 3) := by decide +kernel
theorem dX6_advance_56 : decode cX6_advance 56 = .ok (.aload_n 0, 1) := by decide +kernel
theorem dX6_advance_57 : decode cX6_advance 57 = .ok (.getfield 181, 3) := by decide +kernel
theorem dX6_advance_60 : decode cX6_advance 60 = .ok (.aload_n 0, 1) := by decide +kernel
theorem dX6_advance_61 : decode cX6_advance 61 = .ok (.getfield 74, 3) := by decide +kernel
theorem dX6_advance_64 : decode cX6_advance 64 = .ok (.iload_n 3, 1) := by decide +kernel
theorem dX6_advance_65 : decode cX6_advance 65 = .ok (.iaload, 1) := by decide +kernel
theorem dX6_advance_66 : decode cX6_advance 66 = .ok (.if_icmp .le 7, 3) := by decide +kernel
theorem dX6_advance_69 : decode cX6_advance 69 = .ok (.iconst 1, 1) := by decide +kernel
theorem dX6_advance_70 : decode cX6_advance 70 = .ok (.goto 4, 3) := by decide +kernel
theorem dX6_advance_73 : decode cX6_advance 73 = .ok (.iconst 0, 1) := by decide +kernel
theorem dX6_advance_74 : decode cX6_advance 74 = .ok (.iadd, 1) := by decide +kernel
theorem dX6_advance_75 : decode cX6_advance 75 = .ok (.istore_n 2, 1) := by decide +kernel
theorem dX6_advance_76 : decode cX6_advance 76 = .ok (.iinc 3 1, 3) := by decide +kernel
theorem dX6_advance_79 : decode cX6_advance 79 = .ok (.goto (-41), 3) := by decide +kernel
theorem dX6_advance_82 : decode cX6_advance 82 = .ok (.iload_n 2, 1) := by decide +kernel
theorem dX6_advance_83 : decode cX6_advance 83 = .ok (.ireturn, 1) := by decide +kernel
theorem dX6_shown_0 : decode cX6_shown 0 = .ok (.aload_n 0, 1) := by decide +kernel
theorem dX6_shown_1 : decode cX6_shown 1 = .ok (.iconst 0, 1) := by decide +kernel
theorem dX6_shown_2 : decode cX6_shown 2 = .ok (.putfield 81, 3) := by decide +kernel
theorem dX6_shown_5 : decode cX6_shown 5 = .ok (.aload_n 0, 1) := by decide +kernel
theorem dX6_shown_6 : decode cX6_shown 6 = .ok (.getfield 152, 3) := by decide +kernel
theorem dX6_shown_9 : decode cX6_shown 9 = .ok (.lreturn, 1) := by decide +kernel
theorem dX6_keptShare_0 : decode cX6_keptShare 0 = .ok (.iconst 0, 1) := by decide +kernel
theorem dX6_keptShare_1 : decode cX6_keptShare 1 = .ok (.istore_n 1, 1) := by decide +kernel
theorem dX6_keptShare_2 : decode cX6_keptShare 2 = .ok (.iconst 0, 1) := by decide +kernel
theorem dX6_keptShare_3 : decode cX6_keptShare 3 = .ok (.istore_n 2, 1) := by decide +kernel
theorem dX6_keptShare_4 : decode cX6_keptShare 4 = .ok (.iload_n 2, 1) := by decide +kernel
theorem dX6_keptShare_5 : decode cX6_keptShare 5 = .ok (.aload_n 0, 1) := by decide +kernel
theorem dX6_keptShare_6 : decode cX6_keptShare 6 = .ok (.getfield 91, 3) := by decide +kernel
theorem dX6_keptShare_9 : decode cX6_keptShare 9 = .ok (.if_icmp .ge 27, 3) := by decide +kernel
theorem dX6_keptShare_12 : decode cX6_keptShare 12 = .ok (.iload_n 1, 1) := by decide +kernel
theorem dX6_keptShare_13 : decode cX6_keptShare 13 = .ok (.aload_n 0, 1) := by decide +kernel
theorem dX6_keptShare_14 : decode cX6_keptShare 14 = .ok (.getfield 25, 3) := by decide +kernel
theorem dX6_keptShare_17 : decode cX6_keptShare 17 = .ok (.iload_n 2, 1) := by decide +kernel
theorem dX6_keptShare_18 : decode cX6_keptShare 18 = .ok (.iaload, 1) := by decide +kernel
theorem dX6_keptShare_19 : decode cX6_keptShare 19 = .ok (.iconst (-1), 1) := by decide +kernel
theorem dX6_keptShare_20 : decode cX6_keptShare 20 = .ok (.if_icmp .ne 7, 3) := by decide +kernel
theorem dX6_keptShare_23 : decode cX6_keptShare 23 = .ok (.iconst 0, 1) := by decide +kernel
theorem dX6_keptShare_24 : decode cX6_keptShare 24 = .ok (.goto 4, 3) := by decide +kernel
theorem dX6_keptShare_27 : decode cX6_keptShare 27 = .ok (.iconst 1, 1) := by decide +kernel
theorem dX6_keptShare_28 : decode cX6_keptShare 28 = .ok (.iadd, 1) := by decide +kernel
theorem dX6_keptShare_29 : decode cX6_keptShare 29 = .ok (.istore_n 1, 1) := by decide +kernel
theorem dX6_keptShare_30 : decode cX6_keptShare 30 = .ok (.iinc 2 1, 3) := by decide +kernel
theorem dX6_keptShare_33 : decode cX6_keptShare 33 = .ok (.goto (-29), 3) := by decide +kernel
theorem dX6_keptShare_36 : decode cX6_keptShare 36 = .ok (.aload_n 0, 1) := by decide +kernel
theorem dX6_keptShare_37 : decode cX6_keptShare 37 = .ok (.aload_n 0, 1) := by decide +kernel
theorem dX6_keptShare_38 : decode cX6_keptShare 38 = .ok (.getfield 91, 3) := by decide +kernel
theorem dX6_keptShare_41 : decode cX6_keptShare 41 = .ok (.ifCond .ne 7, 3) := by decide +kernel
theorem dX6_keptShare_44 : decode cX6_keptShare 44 = .ok (.iconst 1, 1) := by decide +kernel
theorem dX6_keptShare_45 : decode cX6_keptShare 45 = .ok (.goto 4, 3) := by decide +kernel
theorem dX6_keptShare_48 : decode cX6_keptShare 48 = .ok (.iconst 0, 1) := by decide +kernel
theorem dX6_keptShare_49 : decode cX6_keptShare 49 = .ok (.invokevirtual 103, 3) := by decide +kernel
theorem dX6_keptShare_52 : decode cX6_keptShare 52 = .ok (.ifCond .eq 14, 3) := by decide +kernel
theorem dX6_keptShare_55 : decode cX6_keptShare 55 = .ok (.iload_n 1, 1) := by decide +kernel
theorem dX6_keptShare_56 : decode cX6_keptShare 56 = .ok (.i2f, 1) := by decide +kernel
theorem dX6_keptShare_57 : decode cX6_keptShare 57 = .ok (.aload_n 0, 1) := by decide +kernel
theorem dX6_keptShare_58 : decode cX6_keptShare 58 = .ok (.getfield 91, 3) := by decide +kernel
theorem dX6_keptShare_61 : decode cX6_keptShare 61 = .ok (.i2f, 1) := by decide +kernel
theorem dX6_keptShare_62 : decode cX6_keptShare 62 = .ok (.fdiv, 1) := by decide +kernel
theorem dX6_keptShare_63 : decode cX6_keptShare 63 = .ok (.goto 4, 3) := by decide +kernel
theorem dX6_keptShare_66 : decode cX6_keptShare 66 = .ok (.fconst 0, 1) := by decide +kernel
theorem dX6_keptShare_67 : decode cX6_keptShare 67 = .ok (.freturn, 1) := by decide +kernel
theorem dX6_meanWear_0 : decode cX6_meanWear 0 = .ok (.iconst 0, 1) := by decide +kernel
theorem dX6_meanWear_1 : decode cX6_meanWear 1 = .ok (.istore_n 1, 1) := by decide +kernel
theorem dX6_meanWear_2 : decode cX6_meanWear 2 = .ok (.iconst 0, 1) := by decide +kernel
theorem dX6_meanWear_3 : decode cX6_meanWear 3 = .ok (.istore_n 2, 1) := by decide +kernel
theorem dX6_meanWear_4 : decode cX6_meanWear 4 = .ok (.iconst 0, 1) := by decide +kernel
theorem dX6_meanWear_5 : decode cX6_meanWear 5 = .ok (.istore_n 3, 1) := by decide +kernel
theorem dX6_meanWear_6 : decode cX6_meanWear 6 = .ok (.iload_n 3, 1) := by decide +kernel
theorem dX6_meanWear_7 : decode cX6_meanWear 7 = .ok (.aload_n 0, 1) := by decide +kernel
theorem dX6_meanWear_8 : decode cX6_meanWear 8 = .ok (.getfield 94, 3) := by decide +kernel
theorem dX6_meanWear_11 : decode cX6_meanWear 11 = .ok (.if_icmp .ge 49, 3) := by decide +kernel
theorem dX6_meanWear_14 : decode cX6_meanWear 14 = .ok (.iconst 0, 1) := by decide +kernel
theorem dX6_meanWear_15 : decode cX6_meanWear 15 = .ok (.istore 4, 2) := by decide +kernel
theorem dX6_meanWear_17 : decode cX6_meanWear 17 = .ok (.iload 4, 2) := by decide +kernel
theorem dX6_meanWear_19 : decode cX6_meanWear 19 = .ok (.iconst 1, 1) := by decide +kernel
theorem dX6_meanWear_20 : decode cX6_meanWear 20 = .ok (.iadd, 1) := by decide +kernel
theorem dX6_meanWear_21 : decode cX6_meanWear 21 = .ok (.aload_n 0, 1) := by decide +kernel
theorem dX6_meanWear_22 : decode cX6_meanWear 22 = .ok (.getfield 49, 3) := by decide +kernel
theorem dX6_meanWear_25 : decode cX6_meanWear 25 = .ok (.iload_n 3, 1) := by decide +kernel
theorem dX6_meanWear_26 : decode cX6_meanWear 26 = .ok (.iaload, 1) := by decide +kernel
theorem dX6_meanWear_27 : decode cX6_meanWear 27 = .ok (.if_icmp .ge 27, 3) := by decide +kernel
theorem dX6_meanWear_30 : decode cX6_meanWear 30 = .ok (.iload_n 1, 1) := by decide +kernel
theorem dX6_meanWear_31 : decode cX6_meanWear 31 = .ok (.aload_n 0, 1) := by decide +kernel
theorem dX6_meanWear_32 : decode cX6_meanWear 32 = .ok (.getfield 46, 3) := by decide +kernel
theorem dX6_meanWear_35 : decode cX6_meanWear 35 = .ok (.bipush 60, 2) := by decide +kernel
theorem dX6_meanWear_37 : decode cX6_meanWear 37 = .ok (.iload_n 3, 1) := by decide +kernel
theorem dX6_meanWear_38 : decode cX6_meanWear 38 = .ok (.imul, 1) := by decide +kernel
theorem dX6_meanWear_39 : decode cX6_meanWear 39 = .ok (.iload 4, 2) := by decide +kernel
theorem dX6_meanWear_41 : decode cX6_meanWear 41 = .ok (.iadd, 1) := by decide +kernel
theorem dX6_meanWear_42 : decode cX6_meanWear 42 = .ok (.iaload, 1) := by decide +kernel
theorem dX6_meanWear_43 : decode cX6_meanWear 43 = .ok (.iadd, 1) := by decide +kernel
theorem dX6_meanWear_44 : decode cX6_meanWear 44 = .ok (.istore_n 1, 1) := by decide +kernel
theorem dX6_meanWear_45 : decode cX6_meanWear 45 = .ok (.iinc 2 1, 3) := by decide +kernel
theorem dX6_meanWear_48 : decode cX6_meanWear 48 = .ok (.iinc 4 1, 3) := by decide +kernel
theorem dX6_meanWear_51 : decode cX6_meanWear 51 = .ok (.goto (-34), 3) := by decide +kernel
theorem dX6_meanWear_54 : decode cX6_meanWear 54 = .ok (.iinc 3 1, 3) := by decide +kernel
theorem dX6_meanWear_57 : decode cX6_meanWear 57 = .ok (.goto (-51), 3) := by decide +kernel
theorem dX6_meanWear_60 : decode cX6_meanWear 60 = .ok (.aload_n 0, 1) := by decide +kernel
theorem dX6_meanWear_61 : decode cX6_meanWear 61 = .ok (.iload_n 2, 1) := by decide +kernel
theorem dX6_meanWear_62 : decode cX6_meanWear 62 = .ok (.ifCond .ne 7, 3) := by decide +kernel
theorem dX6_meanWear_65 : decode cX6_meanWear 65 = .ok (.iconst 1, 1) := by decide +kernel
theorem dX6_meanWear_66 : decode cX6_meanWear 66 = .ok (.goto 4, 3) := by decide +kernel
theorem dX6_meanWear_69 : decode cX6_meanWear 69 = .ok (.iconst 0, 1) := by decide +kernel
theorem dX6_meanWear_70 : decode cX6_meanWear 70 = .ok (.invokevirtual 103, 3) := by decide +kernel
theorem dX6_meanWear_73 : decode cX6_meanWear 73 = .ok (.ifCond .eq 11, 3) := by decide +kernel
theorem dX6_meanWear_76 : decode cX6_meanWear 76 = .ok (.iload_n 1, 1) := by decide +kernel
theorem dX6_meanWear_77 : decode cX6_meanWear 77 = .ok (.i2d, 1) := by decide +kernel
theorem dX6_meanWear_78 : decode cX6_meanWear 78 = .ok (.iload_n 2, 1) := by decide +kernel
theorem dX6_meanWear_79 : decode cX6_meanWear 79 = .ok (.i2d, 1) := by decide +kernel
theorem dX6_meanWear_80 : decode cX6_meanWear 80 = .ok (.ddiv, 1) := by decide +kernel
theorem dX6_meanWear_81 : decode cX6_meanWear 81 = .ok (.goto 4, 3) := by decide +kernel
theorem dX6_meanWear_84 : decode cX6_meanWear 84 = .ok (.dconst 0, 1) := by decide +kernel
theorem dX6_meanWear_85 : decode cX6_meanWear 85 = .ok (.dreturn, 1) := by decide +kernel
theorem dX6_isSound_0 : decode cX6_isSound 0 = .ok (.aload_n 0, 1) := by decide +kernel
theorem dX6_isSound_1 : decode cX6_isSound 1 = .ok (.iconst 0, 1) := by decide +kernel
theorem dX6_isSound_2 : decode cX6_isSound 2 = .ok (.putfield 81, 3) := by decide +kernel
theorem dX6_isSound_5 : decode cX6_isSound 5 = .ok (.iconst 1, 1) := by decide +kernel
theorem dX6_isSound_6 : decode cX6_isSound 6 = .ok (.ireturn, 1) := by decide +kernel
