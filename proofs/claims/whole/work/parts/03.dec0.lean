theorem dX0_init_0 : decode cX0_init 0 = .ok (.aload_n 0, 1) := by decide +kernel
theorem dX0_init_1 : decode cX0_init 1 = .ok (.iload_n 1, 1) := by decide +kernel
theorem dX0_init_2 : decode cX0_init 2 = .ok (.iload_n 2, 1) := by decide +kernel
theorem dX0_init_3 : decode cX0_init 3 = .ok (.iload_n 3, 1) := by decide +kernel
theorem dX0_init_4 : decode cX0_init 4 = .ok (.iload 4, 2) := by decide +kernel
theorem dX0_init_6 : decode cX0_init 6 = .ok (.iload 5, 2) := by decide +kernel
theorem dX0_init_8 : decode cX0_init 8 = .ok (.invokespecial 3, 3) := by decide +kernel
theorem dX0_init_11 : decode cX0_init 11 = .ok (.return_, 1) := by decide +kernel
theorem dX0_kindNumber_0 : decode cX0_kindNumber 0 = .ok (.bipush 6, 2) := by decide +kernel
theorem dX0_kindNumber_2 : decode cX0_kindNumber 2 = .ok (.ireturn, 1) := by decide +kernel
theorem dX0_isOf_0 : decode cX0_isOf 0 = .ok (.iload_n 1, 1) := by decide +kernel
theorem dX0_isOf_1 : decode cX0_isOf 1 = .ok (.bipush 6, 2) := by decide +kernel
theorem dX0_isOf_3 : decode cX0_isOf 3 = .ok (.if_icmp .eq 11, 3) := by decide +kernel
theorem dX0_isOf_6 : decode cX0_isOf 6 = .ok (.aload_n 0, 1) := by decide +kernel
theorem dX0_isOf_7 : decode cX0_isOf 7 = .ok (.iload_n 1, 1) := by decide +kernel
theorem dX0_isOf_8 : decode cX0_isOf 8 = .ok (.invokespecial 9, 3) := by decide +kernel
theorem dX0_isOf_11 : decode cX0_isOf 11 = .ok (.ifCond .eq 7, 3) := by decide +kernel
theorem dX0_isOf_14 : decode cX0_isOf 14 = .ok (.iconst 1, 1) := by decide +kernel
theorem dX0_isOf_15 : decode cX0_isOf 15 = .ok (.goto 4, 3) := by decide +kernel
theorem dX0_isOf_18 : decode cX0_isOf 18 = .ok (.iconst 0, 1) := by decide +kernel
theorem dX0_isOf_19 : decode cX0_isOf 19 = .ok (.ireturn, 1) := by decide +kernel
theorem dX0_giving_0 : decode cX0_giving 0 = .ok (.aload_n 0, 1) := by decide +kernel
theorem dX0_giving_1 : decode cX0_giving 1 = .ok (.invokespecial 13, 3) := by decide +kernel
theorem dX0_giving_4 : decode cX0_giving 4 = .ok (.iconst 1, 1) := by decide +kernel
theorem dX0_giving_5 : decode cX0_giving 5 = .ok (.iadd, 1) := by decide +kernel
theorem dX0_giving_6 : decode cX0_giving 6 = .ok (.ireturn, 1) := by decide +kernel
theorem dX0_usersFrom_0 : decode cX0_usersFrom 0 = .ok (.aload_n 0, 1) := by decide +kernel
theorem dX0_usersFrom_1 : decode cX0_usersFrom 1 = .ok (.aload_n 1, 1) := by decide +kernel
theorem dX0_usersFrom_2 : decode cX0_usersFrom 2 = .ok (.iload_n 2, 1) := by decide +kernel
theorem dX0_usersFrom_3 : decode cX0_usersFrom 3 = .ok (.iload_n 3, 1) := by decide +kernel
theorem dX0_usersFrom_4 : decode cX0_usersFrom 4 = .ok (.invokespecial 17, 3) := by decide +kernel
theorem dX0_usersFrom_7 : decode cX0_usersFrom 7 = .ok (.aload_n 1, 1) := by decide +kernel
theorem dX0_usersFrom_8 : decode cX0_usersFrom 8 = .ok (.iload_n 2, 1) := by decide +kernel
theorem dX0_usersFrom_9 : decode cX0_usersFrom 9 = .ok (.invokevirtual 21, 3) := by decide +kernel
theorem dX0_usersFrom_12 : decode cX0_usersFrom 12 = .ok (.iadd, 1) := by decide +kernel
theorem dX0_usersFrom_13 : decode cX0_usersFrom 13 = .ok (.ireturn, 1) := by decide +kernel
theorem dX0_telling_0 : decode cX0_telling 0 = .ok (.aload_n 2, 1) := by decide +kernel
theorem dX0_telling_1 : decode cX0_telling 1 = .ok (.bipush 70, 2) := by decide +kernel
theorem dX0_telling_3 : decode cX0_telling 3 = .ok (.invokevirtual 27, 3) := by decide +kernel
theorem dX0_telling_6 : decode cX0_telling 6 = .ok (.aload_n 0, 1) := by decide +kernel
theorem dX0_telling_7 : decode cX0_telling 7 = .ok (.iload_n 1, 1) := by decide +kernel
theorem dX0_telling_8 : decode cX0_telling 8 = .ok (.aload_n 2, 1) := by decide +kernel
theorem dX0_telling_9 : decode cX0_telling 9 = .ok (.invokevirtual 33, 3) := by decide +kernel
theorem dX0_telling_12 : decode cX0_telling 12 = .ok (.aload_n 0, 1) := by decide +kernel
theorem dX0_telling_13 : decode cX0_telling 13 = .ok (.iload_n 1, 1) := by decide +kernel
theorem dX0_telling_14 : decode cX0_telling 14 = .ok (.aload_n 2, 1) := by decide +kernel
theorem dX0_telling_15 : decode cX0_telling 15 = .ok (.invokespecial 39, 3) := by decide +kernel
theorem dX0_telling_18 : decode cX0_telling 18 = .ok (.isub, 1) := by decide +kernel
theorem dX0_telling_19 : decode cX0_telling 19 = .ok (.ireturn, 1) := by decide +kernel
theorem dX1_init_0 : decode cX1_init 0 = .ok (.aload_n 0, 1) := by decide +kernel
theorem dX1_init_1 : decode cX1_init 1 = .ok (.iload_n 1, 1) := by decide +kernel
theorem dX1_init_2 : decode cX1_init 2 = .ok (.iload_n 2, 1) := by decide +kernel
theorem dX1_init_3 : decode cX1_init 3 = .ok (.iload_n 3, 1) := by decide +kernel
theorem dX1_init_4 : decode cX1_init 4 = .ok (.iload 4, 2) := by decide +kernel
theorem dX1_init_6 : decode cX1_init 6 = .ok (.iload 5, 2) := by decide +kernel
theorem dX1_init_8 : decode cX1_init 8 = .ok (.invokespecial 3, 3) := by decide +kernel
theorem dX1_init_11 : decode cX1_init 11 = .ok (.return_, 1) := by decide +kernel
theorem dX1_kindNumber_0 : decode cX1_kindNumber 0 = .ok (.iconst 4, 1) := by decide +kernel
theorem dX1_kindNumber_1 : decode cX1_kindNumber 1 = .ok (.ireturn, 1) := by decide +kernel
theorem dX1_isOf_0 : decode cX1_isOf 0 = .ok (.iload_n 1, 1) := by decide +kernel
theorem dX1_isOf_1 : decode cX1_isOf 1 = .ok (.iconst 4, 1) := by decide +kernel
theorem dX1_isOf_2 : decode cX1_isOf 2 = .ok (.if_icmp .eq 11, 3) := by decide +kernel
theorem dX1_isOf_5 : decode cX1_isOf 5 = .ok (.aload_n 0, 1) := by decide +kernel
theorem dX1_isOf_6 : decode cX1_isOf 6 = .ok (.iload_n 1, 1) := by decide +kernel
theorem dX1_isOf_7 : decode cX1_isOf 7 = .ok (.invokespecial 9, 3) := by decide +kernel
theorem dX1_isOf_10 : decode cX1_isOf 10 = .ok (.ifCond .eq 7, 3) := by decide +kernel
theorem dX1_isOf_13 : decode cX1_isOf 13 = .ok (.iconst 1, 1) := by decide +kernel
theorem dX1_isOf_14 : decode cX1_isOf 14 = .ok (.goto 4, 3) := by decide +kernel
theorem dX1_isOf_17 : decode cX1_isOf 17 = .ok (.iconst 0, 1) := by decide +kernel
theorem dX1_isOf_18 : decode cX1_isOf 18 = .ok (.ireturn, 1) := by decide +kernel
theorem dX1_giving_0 : decode cX1_giving 0 = .ok (.iconst 2, 1) := by decide +kernel
theorem dX1_giving_1 : decode cX1_giving 1 = .ok (.aload_n 0, 1) := by decide +kernel
theorem dX1_giving_2 : decode cX1_giving 2 = .ok (.invokespecial 13, 3) := by decide +kernel
theorem dX1_giving_5 : decode cX1_giving 5 = .ok (.imul, 1) := by decide +kernel
theorem dX1_giving_6 : decode cX1_giving 6 = .ok (.ireturn, 1) := by decide +kernel
theorem dX1_usersFrom_0 : decode cX1_usersFrom 0 = .ok (.iconst 0, 1) := by decide +kernel
theorem dX1_usersFrom_1 : decode cX1_usersFrom 1 = .ok (.istore 4, 2) := by decide +kernel
theorem dX1_usersFrom_3 : decode cX1_usersFrom 3 = .ok (.iconst 0, 1) := by decide +kernel
theorem dX1_usersFrom_4 : decode cX1_usersFrom 4 = .ok (.istore 5, 2) := by decide +kernel
theorem dX1_usersFrom_6 : decode cX1_usersFrom 6 = .ok (.iload 5, 2) := by decide +kernel
theorem dX1_usersFrom_8 : decode cX1_usersFrom 8 = .ok (.aload_n 1, 1) := by decide +kernel
theorem dX1_usersFrom_9 : decode cX1_usersFrom 9 = .ok (.getfield 17, 3) := by decide +kernel
theorem dX1_usersFrom_12 : decode cX1_usersFrom 12 = .ok (.if_icmp .ge 52, 3) := by decide +kernel
theorem dX1_usersFrom_15 : decode cX1_usersFrom 15 = .ok (.iload 5, 2) := by decide +kernel
theorem dX1_usersFrom_17 : decode cX1_usersFrom 17 = .ok (.iload_n 2, 1) := by decide +kernel
theorem dX1_usersFrom_18 : decode cX1_usersFrom 18 = .ok (.if_icmp .eq 40, 3) := by decide +kernel
theorem dX1_usersFrom_21 : decode cX1_usersFrom 21 = .ok (.iload_n 3, 1) := by decide +kernel
theorem dX1_usersFrom_22 : decode cX1_usersFrom 22 = .ok (.iload 5, 2) := by decide +kernel
theorem dX1_usersFrom_24 : decode cX1_usersFrom 24 = .ok (.ishr, 1) := by decide +kernel
theorem dX1_usersFrom_25 : decode cX1_usersFrom 25 = .ok (.iconst 1, 1) := by decide +kernel
theorem dX1_usersFrom_26 : decode cX1_usersFrom 26 = .ok (.iand, 1) := by decide +kernel
theorem dX1_usersFrom_27 : decode cX1_usersFrom 27 = .ok (.ifCond .eq 31, 3) := by decide +kernel
theorem dX1_usersFrom_30 : decode cX1_usersFrom 30 = .ok (.iload 4, 2) := by decide +kernel
theorem dX1_usersFrom_32 : decode cX1_usersFrom 32 = .ok (.aload_n 1, 1) := by decide +kernel
theorem dX1_usersFrom_33 : decode cX1_usersFrom 33 = .ok (.getfield 23, 3) := by decide +kernel
theorem dX1_usersFrom_36 : decode cX1_usersFrom 36 = .ok (.iconst 3, 1) := by decide +kernel
theorem dX1_usersFrom_37 : decode cX1_usersFrom 37 = .ok (.iload 5, 2) := by decide +kernel
theorem dX1_usersFrom_39 : decode cX1_usersFrom 39 = .ok (.imul, 1) := by decide +kernel
theorem dX1_usersFrom_40 : decode cX1_usersFrom 40 = .ok (.iconst 1, 1) := by decide +kernel
theorem dX1_usersFrom_41 : decode cX1_usersFrom 41 = .ok (.iadd, 1) := by decide +kernel
theorem dX1_usersFrom_42 : decode cX1_usersFrom 42 = .ok (.iaload, 1) := by decide +kernel
theorem dX1_usersFrom_43 : decode cX1_usersFrom 43 = .ok (.aload_n 1, 1) := by decide +kernel
theorem dX1_usersFrom_44 : decode cX1_usersFrom 44 = .ok (.getfield 23, 3) := by decide +kernel
theorem dX1_usersFrom_47 : decode cX1_usersFrom 47 = .ok (.iconst 3, 1) := by decide +kernel
theorem dX1_usersFrom_48 : decode cX1_usersFrom 48 = .ok (.iload 5, 2) := by decide +kernel
theorem dX1_usersFrom_50 : decode cX1_usersFrom 50 = .ok (.imul, 1) := by decide +kernel
theorem dX1_usersFrom_51 : decode cX1_usersFrom 51 = .ok (.iconst 2, 1) := by decide +kernel
theorem dX1_usersFrom_52 : decode cX1_usersFrom 52 = .ok (.iadd, 1) := by decide +kernel
theorem dX1_usersFrom_53 : decode cX1_usersFrom 53 = .ok (.iaload, 1) := by decide +kernel
theorem dX1_usersFrom_54 : decode cX1_usersFrom 54 = .ok (.iadd, 1) := by decide +kernel
theorem dX1_usersFrom_55 : decode cX1_usersFrom 55 = .ok (.iadd, 1) := by decide +kernel
theorem dX1_usersFrom_56 : decode cX1_usersFrom 56 = .ok (.istore 4, 2) := by decide +kernel
theorem dX1_usersFrom_58 : decode cX1_usersFrom 58 = .ok (.iinc 5 1, 3) := by decide +kernel
theorem dX1_usersFrom_61 : decode cX1_usersFrom 61 = .ok (.goto (-55), 3) := by decide +kernel
theorem dX1_usersFrom_64 : decode cX1_usersFrom 64 = .ok (.iload 4, 2) := by decide +kernel
theorem dX1_usersFrom_66 : decode cX1_usersFrom 66 = .ok (.ireturn, 1) := by decide +kernel
theorem dX1_telling_0 : decode cX1_telling 0 = .ok (.aload_n 2, 1) := by decide +kernel
theorem dX1_telling_1 : decode cX1_telling 1 = .ok (.bipush 50, 2) := by decide +kernel
theorem dX1_telling_3 : decode cX1_telling 3 = .ok (.invokevirtual 27, 3) := by decide +kernel
theorem dX1_telling_6 : decode cX1_telling 6 = .ok (.aload_n 0, 1) := by decide +kernel
theorem dX1_telling_7 : decode cX1_telling 7 = .ok (.iload_n 1, 1) := by decide +kernel
theorem dX1_telling_8 : decode cX1_telling 8 = .ok (.aload_n 2, 1) := by decide +kernel
theorem dX1_telling_9 : decode cX1_telling 9 = .ok (.invokespecial 33, 3) := by decide +kernel
theorem dX1_telling_12 : decode cX1_telling 12 = .ok (.aload_n 0, 1) := by decide +kernel
theorem dX1_telling_13 : decode cX1_telling 13 = .ok (.iconst 2, 1) := by decide +kernel
theorem dX1_telling_14 : decode cX1_telling 14 = .ok (.aload_n 2, 1) := by decide +kernel
theorem dX1_telling_15 : decode cX1_telling 15 = .ok (.invokevirtual 37, 3) := by decide +kernel
theorem dX1_telling_18 : decode cX1_telling 18 = .ok (.isub, 1) := by decide +kernel
theorem dX1_telling_19 : decode cX1_telling 19 = .ok (.ireturn, 1) := by decide +kernel
theorem dX2_init_0 : decode cX2_init 0 = .ok (.aload_n 0, 1) := by decide +kernel
theorem dX2_init_1 : decode cX2_init 1 = .ok (.invokespecial 3, 3) := by decide +kernel
theorem dX2_init_4 : decode cX2_init 4 = .ok (.aload_n 0, 1) := by decide +kernel
theorem dX2_init_5 : decode cX2_init 5 = .ok (.new 9, 3) := by decide +kernel
theorem dX2_init_8 : decode cX2_init 8 = .ok (.dup, 1) := by decide +kernel
theorem dX2_init_9 : decode cX2_init 9 = .ok (.invokespecial 11, 3) := by decide +kernel
theorem dX2_init_12 : decode cX2_init 12 = .ok (.putfield 12, 3) := by decide +kernel
theorem dX2_init_15 : decode cX2_init 15 = .ok (.aload_n 0, 1) := by decide +kernel
theorem dX2_init_16 : decode cX2_init 16 = .ok (.new 18, 3) := by decide +kernel
theorem dX2_init_19 : decode cX2_init 19 = .ok (.dup, 1) := by decide +kernel
theorem dX2_init_20 : decode cX2_init 20 = .ok (.bipush 50, 2) := by decide +kernel
theorem dX2_init_22 : decode cX2_init 22 = .ok (.invokespecial 20, 3) := by decide +kernel
theorem dX2_init_25 : decode cX2_init 25 = .ok (.putfield 23, 3) := by decide +kernel
theorem dX2_init_28 : decode cX2_init 28 = .ok (.aload_n 0, 1) := by decide +kernel
theorem dX2_init_29 : decode cX2_init 29 = .ok (.new 18, 3) := by decide +kernel
theorem dX2_init_32 : decode cX2_init 32 = .ok (.dup, 1) := by decide +kernel
theorem dX2_init_33 : decode cX2_init 33 = .ok (.bipush 20, 2) := by decide +kernel
theorem dX2_init_35 : decode cX2_init 35 = .ok (.invokespecial 20, 3) := by decide +kernel
theorem dX2_init_38 : decode cX2_init 38 = .ok (.putfield 27, 3) := by decide +kernel
theorem dX2_init_41 : decode cX2_init 41 = .ok (.aload_n 0, 1) := by decide +kernel
theorem dX2_init_42 : decode cX2_init 42 = .ok (.iconst 1, 1) := by decide +kernel
theorem dX2_init_43 : decode cX2_init 43 = .ok (.putfield 30, 3) := by decide +kernel
theorem dX2_init_46 : decode cX2_init 46 = .ok (.return_, 1) := by decide +kernel
theorem dX2_draw_0 : decode cX2_draw 0 = .ok (.aload_n 0, 1) := by decide +kernel
theorem dX2_draw_1 : decode cX2_draw 1 = .ok (.aload_n 0, 1) := by decide +kernel
theorem dX2_draw_2 : decode cX2_draw 2 = .ok (.getfield 30, 3) := by decide +kernel
theorem dX2_draw_5 : decode cX2_draw 5 = .ok (.ldc 34, 2) := by decide +kernel
theorem dX2_draw_7 : decode cX2_draw 7 = .ok (.imul, 1) := by decide +kernel
theorem dX2_draw_8 : decode cX2_draw 8 = .ok (.sipush 12345, 3) := by decide +kernel
theorem dX2_draw_11 : decode cX2_draw 11 = .ok (.iadd, 1) := by decide +kernel
theorem dX2_draw_12 : decode cX2_draw 12 = .ok (.putfield 30, 3) := by decide +kernel
theorem dX2_draw_15 : decode cX2_draw 15 = .ok (.aload_n 0, 1) := by decide +kernel
theorem dX2_draw_16 : decode cX2_draw 16 = .ok (.getfield 30, 3) := by decide +kernel
theorem dX2_draw_19 : decode cX2_draw 19 = .ok (.bipush 8, 2) := by decide +kernel
theorem dX2_draw_21 : decode cX2_draw 21 = .ok (.iushr, 1) := by decide +kernel
theorem dX2_draw_22 : decode cX2_draw 22 = .ok (.ireturn, 1) := by decide +kernel
theorem dX2_copyFrom_0 : decode cX2_copyFrom 0 = .ok (.aload_n 0, 1) := by decide +kernel
theorem dX2_copyFrom_1 : decode cX2_copyFrom 1 = .ok (.getfield 12, 3) := by decide +kernel
theorem dX2_copyFrom_4 : decode cX2_copyFrom 4 = .ok (.aload_n 1, 1) := by decide +kernel
theorem dX2_copyFrom_5 : decode cX2_copyFrom 5 = .ok (.getfield 12, 3) := by decide +kernel
theorem dX2_copyFrom_8 : decode cX2_copyFrom 8 = .ok (.invokevirtual 35, 3) := by decide +kernel
theorem dX2_copyFrom_11 : decode cX2_copyFrom 11 = .ok (.aload_n 0, 1) := by decide +kernel
theorem dX2_copyFrom_12 : decode cX2_copyFrom 12 = .ok (.getfield 23, 3) := by decide +kernel
theorem dX2_copyFrom_15 : decode cX2_copyFrom 15 = .ok (.aload_n 1, 1) := by decide +kernel
theorem dX2_copyFrom_16 : decode cX2_copyFrom 16 = .ok (.getfield 23, 3) := by decide +kernel
theorem dX2_copyFrom_19 : decode cX2_copyFrom 19 = .ok (.invokevirtual 39, 3) := by decide +kernel
theorem dX2_copyFrom_22 : decode cX2_copyFrom 22 = .ok (.aload_n 0, 1) := by decide +kernel
theorem dX2_copyFrom_23 : decode cX2_copyFrom 23 = .ok (.getfield 27, 3) := by decide +kernel
theorem dX2_copyFrom_26 : decode cX2_copyFrom 26 = .ok (.aload_n 1, 1) := by decide +kernel
theorem dX2_copyFrom_27 : decode cX2_copyFrom 27 = .ok (.getfield 27, 3) := by decide +kernel
theorem dX2_copyFrom_30 : decode cX2_copyFrom 30 = .ok (.invokevirtual 39, 3) := by decide +kernel
theorem dX2_copyFrom_33 : decode cX2_copyFrom 33 = .ok (.aload_n 0, 1) := by decide +kernel
theorem dX2_copyFrom_34 : decode cX2_copyFrom 34 = .ok (.aload_n 1, 1) := by decide +kernel
theorem dX2_copyFrom_35 : decode cX2_copyFrom 35 = .ok (.getfield 30, 3) := by decide +kernel
theorem dX2_copyFrom_38 : decode cX2_copyFrom 38 = .ok (.putfield 30, 3) := by decide +kernel
theorem dX2_copyFrom_41 : decode cX2_copyFrom 41 = .ok (.return_, 1) := by decide +kernel
theorem dX3_init_0 : decode cX3_init 0 = .ok (.aload_n 0, 1) := by decide +kernel
theorem dX3_init_1 : decode cX3_init 1 = .ok (.iload_n 1, 1) := by decide +kernel
theorem dX3_init_2 : decode cX3_init 2 = .ok (.iload_n 2, 1) := by decide +kernel
theorem dX3_init_3 : decode cX3_init 3 = .ok (.iload_n 3, 1) := by decide +kernel
theorem dX3_init_4 : decode cX3_init 4 = .ok (.iload 4, 2) := by decide +kernel
theorem dX3_init_6 : decode cX3_init 6 = .ok (.iload 5, 2) := by decide +kernel
theorem dX3_init_8 : decode cX3_init 8 = .ok (.invokespecial 3, 3) := by decide +kernel
theorem dX3_init_11 : decode cX3_init 11 = .ok (.return_, 1) := by decide +kernel
theorem dX3_kindNumber_0 : decode cX3_kindNumber 0 = .ok (.iconst 3, 1) := by decide +kernel
theorem dX3_kindNumber_1 : decode cX3_kindNumber 1 = .ok (.ireturn, 1) := by decide +kernel
theorem dX3_isOf_0 : decode cX3_isOf 0 = .ok (.iload_n 1, 1) := by decide +kernel
theorem dX3_isOf_1 : decode cX3_isOf 1 = .ok (.iconst 3, 1) := by decide +kernel
theorem dX3_isOf_2 : decode cX3_isOf 2 = .ok (.if_icmp .eq 11, 3) := by decide +kernel
theorem dX3_isOf_5 : decode cX3_isOf 5 = .ok (.aload_n 0, 1) := by decide +kernel
theorem dX3_isOf_6 : decode cX3_isOf 6 = .ok (.iload_n 1, 1) := by decide +kernel
theorem dX3_isOf_7 : decode cX3_isOf 7 = .ok (.invokespecial 9, 3) := by decide +kernel
theorem dX3_isOf_10 : decode cX3_isOf 10 = .ok (.ifCond .eq 7, 3) := by decide +kernel
theorem dX3_isOf_13 : decode cX3_isOf 13 = .ok (.iconst 1, 1) := by decide +kernel
theorem dX3_isOf_14 : decode cX3_isOf 14 = .ok (.goto 4, 3) := by decide +kernel
theorem dX3_isOf_17 : decode cX3_isOf 17 = .ok (.iconst 0, 1) := by decide +kernel
theorem dX3_isOf_18 : decode cX3_isOf 18 = .ok (.ireturn, 1) := by decide +kernel
theorem dX3_giving_0 : decode cX3_giving 0 = .ok (.aload_n 0, 1) := by decide +kernel
theorem dX3_giving_1 : decode cX3_giving 1 = .ok (.invokespecial 13, 3) := by decide +kernel
theorem dX3_giving_4 : decode cX3_giving 4 = .ok (.iconst 2, 1) := by decide +kernel
theorem dX3_giving_5 : decode cX3_giving 5 = .ok (.iadd, 1) := by decide +kernel
theorem dX3_giving_6 : decode cX3_giving 6 = .ok (.ireturn, 1) := by decide +kernel
theorem dX3_usersFrom_0 : decode cX3_usersFrom 0 = .ok (.aload_n 0, 1) := by decide +kernel
theorem dX3_usersFrom_1 : decode cX3_usersFrom 1 = .ok (.aload_n 1, 1) := by decide +kernel
theorem dX3_usersFrom_2 : decode cX3_usersFrom 2 = .ok (.iload_n 2, 1) := by decide +kernel
theorem dX3_usersFrom_3 : decode cX3_usersFrom 3 = .ok (.iload_n 3, 1) := by decide +kernel
theorem dX3_usersFrom_4 : decode cX3_usersFrom 4 = .ok (.invokespecial 17, 3) := by decide +kernel
theorem dX3_usersFrom_7 : decode cX3_usersFrom 7 = .ok (.aload_n 1, 1) := by decide +kernel
theorem dX3_usersFrom_8 : decode cX3_usersFrom 8 = .ok (.getfield 21, 3) := by decide +kernel
theorem dX3_usersFrom_11 : decode cX3_usersFrom 11 = .ok (.iconst 3, 1) := by decide +kernel
theorem dX3_usersFrom_12 : decode cX3_usersFrom 12 = .ok (.iload_n 2, 1) := by decide +kernel
theorem dX3_usersFrom_13 : decode cX3_usersFrom 13 = .ok (.imul, 1) := by decide +kernel
theorem dX3_usersFrom_14 : decode cX3_usersFrom 14 = .ok (.iconst 1, 1) := by decide +kernel
theorem dX3_usersFrom_15 : decode cX3_usersFrom 15 = .ok (.iadd, 1) := by decide +kernel
theorem dX3_usersFrom_16 : decode cX3_usersFrom 16 = .ok (.iaload, 1) := by decide +kernel
theorem dX3_usersFrom_17 : decode cX3_usersFrom 17 = .ok (.isub, 1) := by decide +kernel
theorem dX3_usersFrom_18 : decode cX3_usersFrom 18 = .ok (.ireturn, 1) := by decide +kernel
theorem dX3_falling_0 : decode cX3_falling 0 = .ok (.aload_n 2, 1) := by decide +kernel
theorem dX3_falling_1 : decode cX3_falling 1 = .ok (.bipush 40, 2) := by decide +kernel
theorem dX3_falling_3 : decode cX3_falling 3 = .ok (.invokevirtual 27, 3) := by decide +kernel
theorem dX3_falling_6 : decode cX3_falling 6 = .ok (.aload_n 0, 1) := by decide +kernel
theorem dX3_falling_7 : decode cX3_falling 7 = .ok (.iload_n 1, 1) := by decide +kernel
theorem dX3_falling_8 : decode cX3_falling 8 = .ok (.aload_n 2, 1) := by decide +kernel
theorem dX3_falling_9 : decode cX3_falling 9 = .ok (.invokespecial 33, 3) := by decide +kernel
theorem dX3_falling_12 : decode cX3_falling 12 = .ok (.ineg, 1) := by decide +kernel
theorem dX3_falling_13 : decode cX3_falling 13 = .ok (.ireturn, 1) := by decide +kernel
theorem dX3_holding_0 : decode cX3_holding 0 = .ok (.aload_n 2, 1) := by decide +kernel
theorem dX3_holding_1 : decode cX3_holding 1 = .ok (.bipush 41, 2) := by decide +kernel
theorem dX3_holding_3 : decode cX3_holding 3 = .ok (.invokevirtual 27, 3) := by decide +kernel
theorem dX3_holding_6 : decode cX3_holding 6 = .ok (.aload_n 0, 1) := by decide +kernel
theorem dX3_holding_7 : decode cX3_holding 7 = .ok (.iload_n 1, 1) := by decide +kernel
theorem dX3_holding_8 : decode cX3_holding 8 = .ok (.iconst 1, 1) := by decide +kernel
theorem dX3_holding_9 : decode cX3_holding 9 = .ok (.iadd, 1) := by decide +kernel
theorem dX3_holding_10 : decode cX3_holding 10 = .ok (.aload_n 2, 1) := by decide +kernel
theorem dX3_holding_11 : decode cX3_holding 11 = .ok (.invokespecial 37, 3) := by decide +kernel
theorem dX3_holding_14 : decode cX3_holding 14 = .ok (.ireturn, 1) := by decide +kernel
theorem dX4_init_0 : decode cX4_init 0 = .ok (.aload_n 0, 1) := by decide +kernel
theorem dX4_init_1 : decode cX4_init 1 = .ok (.invokespecial 3, 3) := by decide +kernel
theorem dX4_init_4 : decode cX4_init 4 = .ok (.aload_n 0, 1) := by decide +kernel
theorem dX4_init_5 : decode cX4_init 5 = .ok (.iconst 0, 1) := by decide +kernel
theorem dX4_init_6 : decode cX4_init 6 = .ok (.putfield 9, 3) := by decide +kernel
theorem dX4_init_9 : decode cX4_init 9 = .ok (.aload_n 0, 1) := by decide +kernel
theorem dX4_init_10 : decode cX4_init 10 = .ok (.iconst 2, 1) := by decide +kernel
theorem dX4_init_11 : decode cX4_init 11 = .ok (.putfield 15, 3) := by decide +kernel
theorem dX4_init_14 : decode cX4_init 14 = .ok (.aload_n 0, 1) := by decide +kernel
theorem dX4_init_15 : decode cX4_init 15 = .ok (.iconst 0, 1) := by decide +kernel
theorem dX4_init_16 : decode cX4_init 16 = .ok (.putfield 18, 3) := by decide +kernel
theorem dX4_init_19 : decode cX4_init 19 = .ok (.aload_n 0, 1) := by decide +kernel
theorem dX4_init_20 : decode cX4_init 20 = .ok (.iconst 0, 1) := by decide +kernel
theorem dX4_init_21 : decode cX4_init 21 = .ok (.putfield 21, 3) := by decide +kernel
theorem dX4_init_24 : decode cX4_init 24 = .ok (.aload_n 0, 1) := by decide +kernel
theorem dX4_init_25 : decode cX4_init 25 = .ok (.iconst 0, 1) := by decide +kernel
theorem dX4_init_26 : decode cX4_init 26 = .ok (.putfield 24, 3) := by decide +kernel
theorem dX4_init_29 : decode cX4_init 29 = .ok (.aload_n 0, 1) := by decide +kernel
theorem dX4_init_30 : decode cX4_init 30 = .ok (.bipush 8, 2) := by decide +kernel
theorem dX4_init_32 : decode cX4_init 32 = .ok (.newarray .int, 2) := by decide +kernel
theorem dX4_init_34 : decode cX4_init 34 = .ok (.putfield 27, 3) := by decide +kernel
theorem dX4_init_37 : decode cX4_init 37 = .ok (.aload_n 0, 1) := by decide +kernel
theorem dX4_init_38 : decode cX4_init 38 = .ok (.bipush 24, 2) := by decide +kernel
theorem dX4_init_40 : decode cX4_init 40 = .ok (.newarray .int, 2) := by decide +kernel
theorem dX4_init_42 : decode cX4_init 42 = .ok (.putfield 31, 3) := by decide +kernel
theorem dX4_init_45 : decode cX4_init 45 = .ok (.aload_n 0, 1) := by decide +kernel
theorem dX4_init_46 : decode cX4_init 46 = .ok (.bipush 8, 2) := by decide +kernel
theorem dX4_init_48 : decode cX4_init 48 = .ok (.newarray .int, 2) := by decide +kernel
theorem dX4_init_50 : decode cX4_init 50 = .ok (.putfield 34, 3) := by decide +kernel
theorem dX4_init_53 : decode cX4_init 53 = .ok (.aload_n 0, 1) := by decide +kernel
theorem dX4_init_54 : decode cX4_init 54 = .ok (.bipush 10, 2) := by decide +kernel
theorem dX4_init_56 : decode cX4_init 56 = .ok (.anewarray 37, 3) := by decide +kernel
theorem dX4_init_59 : decode cX4_init 59 = .ok (.putfield 39, 3) := by decide +kernel
theorem dX4_init_62 : decode cX4_init 62 = .ok (.aload_n 0, 1) := by decide +kernel
theorem dX4_init_63 : decode cX4_init 63 = .ok (.bipush 10, 2) := by decide +kernel
theorem dX4_init_65 : decode cX4_init 65 = .ok (.newarray .int, 2) := by decide +kernel
theorem dX4_init_67 : decode cX4_init 67 = .ok (.putfield 43, 3) := by decide +kernel
theorem dX4_init_70 : decode cX4_init 70 = .ok (.aload_n 0, 1) := by decide +kernel
theorem dX4_init_71 : decode cX4_init 71 = .ok (.bipush 10, 2) := by decide +kernel
theorem dX4_init_73 : decode cX4_init 73 = .ok (.newarray .int, 2) := by decide +kernel
theorem dX4_init_75 : decode cX4_init 75 = .ok (.putfield 46, 3) := by decide +kernel
theorem dX4_init_78 : decode cX4_init 78 = .ok (.aload_n 0, 1) := by decide +kernel
theorem dX4_init_79 : decode cX4_init 79 = .ok (.bipush 10, 2) := by decide +kernel
theorem dX4_init_81 : decode cX4_init 81 = .ok (.newarray .int, 2) := by decide +kernel
theorem dX4_init_83 : decode cX4_init 83 = .ok (.putfield 49, 3) := by decide +kernel
theorem dX4_init_86 : decode cX4_init 86 = .ok (.aload_n 0, 1) := by decide +kernel
theorem dX4_init_87 : decode cX4_init 87 = .ok (.getstatic 52, 3) := by decide +kernel
theorem dX4_init_90 : decode cX4_init 90 = .ok (.invokevirtual 55, 3) := by decide +kernel
theorem dX4_init_93 : decode cX4_init 93 = .ok (.checkcast 56, 3) := by decide +kernel
theorem dX4_init_96 : decode cX4_init 96 = .ok (.putfield 60, 3) := by decide +kernel
theorem dX4_init_99 : decode cX4_init 99 = .ok (.aload_n 0, 1) := by decide +kernel
theorem dX4_init_100 : decode cX4_init 100 = .ok (.iconst 3, 1) := by decide +kernel
theorem dX4_init_101 : decode cX4_init 101 = .ok (.anewarray 63, 3) := by decide +kernel
theorem dX4_init_104 : decode cX4_init 104 = .ok (.putfield 65, 3) := by decide +kernel
theorem dX4_init_107 : decode cX4_init 107 = .ok (.aload_n 0, 1) := by decide +kernel
theorem dX4_init_108 : decode cX4_init 108 = .ok (.bipush 8, 2) := by decide +kernel
theorem dX4_init_110 : decode cX4_init 110 = .ok (.newarray .int, 2) := by decide +kernel
theorem dX4_init_112 : decode cX4_init 112 = .ok (.putfield 69, 3) := by decide +kernel
theorem dX4_init_115 : decode cX4_init 115 = .ok (.aload_n 0, 1) := by decide +kernel
theorem dX4_init_116 : decode cX4_init 116 = .ok (.iconst 3, 1) := by decide +kernel
theorem dX4_init_117 : decode cX4_init 117 = .ok (.newarray .int, 2) := by decide +kernel
theorem dX4_init_119 : decode cX4_init 119 = .ok (.putfield 72, 3) := by decide +kernel
theorem dX4_init_122 : decode cX4_init 122 = .ok (.return_, 1) := by decide +kernel
theorem dX4_copyFrom_0 : decode cX4_copyFrom 0 = .ok (.aload_n 0, 1) := by decide +kernel
theorem dX4_copyFrom_1 : decode cX4_copyFrom 1 = .ok (.aload_n 1, 1) := by decide +kernel
theorem dX4_copyFrom_2 : decode cX4_copyFrom 2 = .ok (.getfield 9, 3) := by decide +kernel
theorem dX4_copyFrom_5 : decode cX4_copyFrom 5 = .ok (.putfield 9, 3) := by decide +kernel
theorem dX4_copyFrom_8 : decode cX4_copyFrom 8 = .ok (.aload_n 0, 1) := by decide +kernel
theorem dX4_copyFrom_9 : decode cX4_copyFrom 9 = .ok (.aload_n 1, 1) := by decide +kernel
theorem dX4_copyFrom_10 : decode cX4_copyFrom 10 = .ok (.getfield 15, 3) := by decide +kernel
theorem dX4_copyFrom_13 : decode cX4_copyFrom 13 = .ok (.putfield 15, 3) := by decide +kernel
theorem dX4_copyFrom_16 : decode cX4_copyFrom 16 = .ok (.aload_n 0, 1) := by decide +kernel
theorem dX4_copyFrom_17 : decode cX4_copyFrom 17 = .ok (.aload_n 1, 1) := by decide +kernel
theorem dX4_copyFrom_18 : decode cX4_copyFrom 18 = .ok (.getfield 18, 3) := by decide +kernel
theorem dX4_copyFrom_21 : decode cX4_copyFrom 21 = .ok (.putfield 18, 3) := by decide +kernel
theorem dX4_copyFrom_24 : decode cX4_copyFrom 24 = .ok (.aload_n 0, 1) := by decide +kernel
theorem dX4_copyFrom_25 : decode cX4_copyFrom 25 = .ok (.aload_n 1, 1) := by decide +kernel
theorem dX4_copyFrom_26 : decode cX4_copyFrom 26 = .ok (.getfield 21, 3) := by decide +kernel
theorem dX4_copyFrom_29 : decode cX4_copyFrom 29 = .ok (.putfield 21, 3) := by decide +kernel
theorem dX4_copyFrom_32 : decode cX4_copyFrom 32 = .ok (.aload_n 0, 1) := by decide +kernel
theorem dX4_copyFrom_33 : decode cX4_copyFrom 33 = .ok (.aload_n 1, 1) := by decide +kernel
theorem dX4_copyFrom_34 : decode cX4_copyFrom 34 = .ok (.getfield 24, 3) := by decide +kernel
theorem dX4_copyFrom_37 : decode cX4_copyFrom 37 = .ok (.putfield 24, 3) := by decide +kernel
theorem dX4_copyFrom_40 : decode cX4_copyFrom 40 = .ok (.aload_n 1, 1) := by decide +kernel
theorem dX4_copyFrom_41 : decode cX4_copyFrom 41 = .ok (.getfield 27, 3) := by decide +kernel
theorem dX4_copyFrom_44 : decode cX4_copyFrom 44 = .ok (.iconst 0, 1) := by decide +kernel
theorem dX4_copyFrom_45 : decode cX4_copyFrom 45 = .ok (.aload_n 0, 1) := by decide +kernel
theorem dX4_copyFrom_46 : decode cX4_copyFrom 46 = .ok (.getfield 27, 3) := by decide +kernel
theorem dX4_copyFrom_49 : decode cX4_copyFrom 49 = .ok (.iconst 0, 1) := by decide +kernel
theorem dX4_copyFrom_50 : decode cX4_copyFrom 50 = .ok (.aload_n 0, 1) := by decide +kernel
theorem dX4_copyFrom_51 : decode cX4_copyFrom 51 = .ok (.getfield 27, 3) := by decide +kernel
theorem dX4_copyFrom_54 : decode cX4_copyFrom 54 = .ok (.arraylength, 1) := by decide +kernel
theorem dX4_copyFrom_55 : decode cX4_copyFrom 55 = .ok (.invokestatic 75, 3) := by decide +kernel
theorem dX4_copyFrom_58 : decode cX4_copyFrom 58 = .ok (.aload_n 1, 1) := by decide +kernel
theorem dX4_copyFrom_59 : decode cX4_copyFrom 59 = .ok (.getfield 31, 3) := by decide +kernel
theorem dX4_copyFrom_62 : decode cX4_copyFrom 62 = .ok (.iconst 0, 1) := by decide +kernel
theorem dX4_copyFrom_63 : decode cX4_copyFrom 63 = .ok (.aload_n 0, 1) := by decide +kernel
theorem dX4_copyFrom_64 : decode cX4_copyFrom 64 = .ok (.getfield 31, 3) := by decide +kernel
theorem dX4_copyFrom_67 : decode cX4_copyFrom 67 = .ok (.iconst 0, 1) := by decide +kernel
theorem dX4_copyFrom_68 : decode cX4_copyFrom 68 = .ok (.aload_n 0, 1) := by decide +kernel
theorem dX4_copyFrom_69 : decode cX4_copyFrom 69 = .ok (.getfield 31, 3) := by decide +kernel
theorem dX4_copyFrom_72 : decode cX4_copyFrom 72 = .ok (.arraylength, 1) := by decide +kernel
theorem dX4_copyFrom_73 : decode cX4_copyFrom 73 = .ok (.invokestatic 75, 3) := by decide +kernel
theorem dX4_copyFrom_76 : decode cX4_copyFrom 76 = .ok (.aload_n 1, 1) := by decide +kernel
theorem dX4_copyFrom_77 : decode cX4_copyFrom 77 = .ok (.getfield 34, 3) := by decide +kernel
theorem dX4_copyFrom_80 : decode cX4_copyFrom 80 = .ok (.iconst 0, 1) := by decide +kernel
theorem dX4_copyFrom_81 : decode cX4_copyFrom 81 = .ok (.aload_n 0, 1) := by decide +kernel
theorem dX4_copyFrom_82 : decode cX4_copyFrom 82 = .ok (.getfield 34, 3) := by decide +kernel
theorem dX4_copyFrom_85 : decode cX4_copyFrom 85 = .ok (.iconst 0, 1) := by decide +kernel
theorem dX4_copyFrom_86 : decode cX4_copyFrom 86 = .ok (.aload_n 0, 1) := by decide +kernel
theorem dX4_copyFrom_87 : decode cX4_copyFrom 87 = .ok (.getfield 34, 3) := by decide +kernel
theorem dX4_copyFrom_90 : decode cX4_copyFrom 90 = .ok (.arraylength, 1) := by decide +kernel
theorem dX4_copyFrom_91 : decode cX4_copyFrom 91 = .ok (.invokestatic 75, 3) := by decide +kernel
theorem dX4_copyFrom_94 : decode cX4_copyFrom 94 = .ok (.aload_n 1, 1) := by decide +kernel
theorem dX4_copyFrom_95 : decode cX4_copyFrom 95 = .ok (.getfield 43, 3) := by decide +kernel
theorem dX4_copyFrom_98 : decode cX4_copyFrom 98 = .ok (.iconst 0, 1) := by decide +kernel
theorem dX4_copyFrom_99 : decode cX4_copyFrom 99 = .ok (.aload_n 0, 1) := by decide +kernel
theorem dX4_copyFrom_100 : decode cX4_copyFrom 100 = .ok (.getfield 43, 3) := by decide +kernel
theorem dX4_copyFrom_103 : decode cX4_copyFrom 103 = .ok (.iconst 0, 1) := by decide +kernel
theorem dX4_copyFrom_104 : decode cX4_copyFrom 104 = .ok (.aload_n 0, 1) := by decide +kernel
theorem dX4_copyFrom_105 : decode cX4_copyFrom 105 = .ok (.getfield 43, 3) := by decide +kernel
theorem dX4_copyFrom_108 : decode cX4_copyFrom 108 = .ok (.arraylength, 1) := by decide +kernel
theorem dX4_copyFrom_109 : decode cX4_copyFrom 109 = .ok (.invokestatic 75, 3) := by decide +kernel
theorem dX4_copyFrom_112 : decode cX4_copyFrom 112 = .ok (.aload_n 1, 1) := by decide +kernel
theorem dX4_copyFrom_113 : decode cX4_copyFrom 113 = .ok (.getfield 46, 3) := by decide +kernel
theorem dX4_copyFrom_116 : decode cX4_copyFrom 116 = .ok (.iconst 0, 1) := by decide +kernel
theorem dX4_copyFrom_117 : decode cX4_copyFrom 117 = .ok (.aload_n 0, 1) := by decide +kernel
theorem dX4_copyFrom_118 : decode cX4_copyFrom 118 = .ok (.getfield 46, 3) := by decide +kernel
theorem dX4_copyFrom_121 : decode cX4_copyFrom 121 = .ok (.iconst 0, 1) := by decide +kernel
theorem dX4_copyFrom_122 : decode cX4_copyFrom 122 = .ok (.aload_n 0, 1) := by decide +kernel
theorem dX4_copyFrom_123 : decode cX4_copyFrom 123 = .ok (.getfield 46, 3) := by decide +kernel
theorem dX4_copyFrom_126 : decode cX4_copyFrom 126 = .ok (.arraylength, 1) := by decide +kernel
theorem dX4_copyFrom_127 : decode cX4_copyFrom 127 = .ok (.invokestatic 75, 3) := by decide +kernel
theorem dX4_copyFrom_130 : decode cX4_copyFrom 130 = .ok (.aload_n 1, 1) := by decide +kernel
theorem dX4_copyFrom_131 : decode cX4_copyFrom 131 = .ok (.getfield 49, 3) := by decide +kernel
theorem dX4_copyFrom_134 : decode cX4_copyFrom 134 = .ok (.iconst 0, 1) := by decide +kernel
theorem dX4_copyFrom_135 : decode cX4_copyFrom 135 = .ok (.aload_n 0, 1) := by decide +kernel
theorem dX4_copyFrom_136 : decode cX4_copyFrom 136 = .ok (.getfield 49, 3) := by decide +kernel
theorem dX4_copyFrom_139 : decode cX4_copyFrom 139 = .ok (.iconst 0, 1) := by decide +kernel
theorem dX4_copyFrom_140 : decode cX4_copyFrom 140 = .ok (.aload_n 0, 1) := by decide +kernel
theorem dX4_copyFrom_141 : decode cX4_copyFrom 141 = .ok (.getfield 49, 3) := by decide +kernel
theorem dX4_copyFrom_144 : decode cX4_copyFrom 144 = .ok (.arraylength, 1) := by decide +kernel
theorem dX4_copyFrom_145 : decode cX4_copyFrom 145 = .ok (.invokestatic 75, 3) := by decide +kernel
theorem dX4_copyFrom_148 : decode cX4_copyFrom 148 = .ok (.aload_n 1, 1) := by decide +kernel
theorem dX4_copyFrom_149 : decode cX4_copyFrom 149 = .ok (.getfield 60, 3) := by decide +kernel
theorem dX4_copyFrom_152 : decode cX4_copyFrom 152 = .ok (.iconst 0, 1) := by decide +kernel
theorem dX4_copyFrom_153 : decode cX4_copyFrom 153 = .ok (.aload_n 0, 1) := by decide +kernel
theorem dX4_copyFrom_154 : decode cX4_copyFrom 154 = .ok (.getfield 60, 3) := by decide +kernel
theorem dX4_copyFrom_157 : decode cX4_copyFrom 157 = .ok (.iconst 0, 1) := by decide +kernel
theorem dX4_copyFrom_158 : decode cX4_copyFrom 158 = .ok (.aload_n 0, 1) := by decide +kernel
theorem dX4_copyFrom_159 : decode cX4_copyFrom 159 = .ok (.getfield 60, 3) := by decide +kernel
theorem dX4_copyFrom_162 : decode cX4_copyFrom 162 = .ok (.arraylength, 1) := by decide +kernel
theorem dX4_copyFrom_163 : decode cX4_copyFrom 163 = .ok (.invokestatic 75, 3) := by decide +kernel
theorem dX4_copyFrom_166 : decode cX4_copyFrom 166 = .ok (.iconst 0, 1) := by decide +kernel
theorem dX4_copyFrom_167 : decode cX4_copyFrom 167 = .ok (.istore_n 2, 1) := by decide +kernel
theorem dX4_copyFrom_168 : decode cX4_copyFrom 168 = .ok (.iload_n 2, 1) := by decide +kernel
theorem dX4_copyFrom_169 : decode cX4_copyFrom 169 = .ok (.aload_n 0, 1) := by decide +kernel
theorem dX4_copyFrom_170 : decode cX4_copyFrom 170 = .ok (.getfield 39, 3) := by decide +kernel
theorem dX4_copyFrom_173 : decode cX4_copyFrom 173 = .ok (.arraylength, 1) := by decide +kernel
theorem dX4_copyFrom_174 : decode cX4_copyFrom 174 = .ok (.if_icmp .ge 21, 3) := by decide +kernel
theorem dX4_copyFrom_177 : decode cX4_copyFrom 177 = .ok (.aload_n 0, 1) := by decide +kernel
theorem dX4_copyFrom_178 : decode cX4_copyFrom 178 = .ok (.getfield 39, 3) := by decide +kernel
theorem dX4_copyFrom_181 : decode cX4_copyFrom 181 = .ok (.iload_n 2, 1) := by decide +kernel
theorem dX4_copyFrom_182 : decode cX4_copyFrom 182 = .ok (.aload_n 1, 1) := by decide +kernel
theorem dX4_copyFrom_183 : decode cX4_copyFrom 183 = .ok (.getfield 39, 3) := by decide +kernel
theorem dX4_copyFrom_186 : decode cX4_copyFrom 186 = .ok (.iload_n 2, 1) := by decide +kernel
theorem dX4_copyFrom_187 : decode cX4_copyFrom 187 = .ok (.aaload, 1) := by decide +kernel
theorem dX4_copyFrom_188 : decode cX4_copyFrom 188 = .ok (.aastore, 1) := by decide +kernel
theorem dX4_copyFrom_189 : decode cX4_copyFrom 189 = .ok (.iinc 2 1, 3) := by decide +kernel
theorem dX4_copyFrom_192 : decode cX4_copyFrom 192 = .ok (.goto (-24), 3) := by decide +kernel
theorem dX4_copyFrom_195 : decode cX4_copyFrom 195 = .ok (.iconst 0, 1) := by decide +kernel
theorem dX4_copyFrom_196 : decode cX4_copyFrom 196 = .ok (.istore_n 2, 1) := by decide +kernel
theorem dX4_copyFrom_197 : decode cX4_copyFrom 197 = .ok (.iload_n 2, 1) := by decide +kernel
theorem dX4_copyFrom_198 : decode cX4_copyFrom 198 = .ok (.aload_n 0, 1) := by decide +kernel
theorem dX4_copyFrom_199 : decode cX4_copyFrom 199 = .ok (.getfield 65, 3) := by decide +kernel
theorem dX4_copyFrom_202 : decode cX4_copyFrom 202 = .ok (.arraylength, 1) := by decide +kernel
theorem dX4_copyFrom_203 : decode cX4_copyFrom 203 = .ok (.if_icmp .ge 21, 3) := by decide +kernel
theorem dX4_copyFrom_206 : decode cX4_copyFrom 206 = .ok (.aload_n 0, 1) := by decide +kernel
theorem dX4_copyFrom_207 : decode cX4_copyFrom 207 = .ok (.getfield 65, 3) := by decide +kernel
theorem dX4_copyFrom_210 : decode cX4_copyFrom 210 = .ok (.iload_n 2, 1) := by decide +kernel
theorem dX4_copyFrom_211 : decode cX4_copyFrom 211 = .ok (.aload_n 1, 1) := by decide +kernel
theorem dX4_copyFrom_212 : decode cX4_copyFrom 212 = .ok (.getfield 65, 3) := by decide +kernel
theorem dX4_copyFrom_215 : decode cX4_copyFrom 215 = .ok (.iload_n 2, 1) := by decide +kernel
theorem dX4_copyFrom_216 : decode cX4_copyFrom 216 = .ok (.aaload, 1) := by decide +kernel
theorem dX4_copyFrom_217 : decode cX4_copyFrom 217 = .ok (.aastore, 1) := by decide +kernel
theorem dX4_copyFrom_218 : decode cX4_copyFrom 218 = .ok (.iinc 2 1, 3) := by decide +kernel
theorem dX4_copyFrom_221 : decode cX4_copyFrom 221 = .ok (.goto (-24), 3) := by decide +kernel
theorem dX4_copyFrom_224 : decode cX4_copyFrom 224 = .ok (.return_, 1) := by decide +kernel
theorem dX4_addVillage_0 : decode cX4_addVillage 0 = .ok (.aload_n 0, 1) := by decide +kernel
theorem dX4_addVillage_1 : decode cX4_addVillage 1 = .ok (.getfield 18, 3) := by decide +kernel
theorem dX4_addVillage_4 : decode cX4_addVillage 4 = .ok (.istore 5, 2) := by decide +kernel
theorem dX4_addVillage_6 : decode cX4_addVillage 6 = .ok (.iload 5, 2) := by decide +kernel
theorem dX4_addVillage_8 : decode cX4_addVillage 8 = .ok (.bipush 8, 2) := by decide +kernel
theorem dX4_addVillage_10 : decode cX4_addVillage 10 = .ok (.if_icmp .lt 5, 3) := by decide +kernel
theorem dX4_addVillage_13 : decode cX4_addVillage 13 = .ok (.iconst (-1), 1) := by decide +kernel
theorem dX4_addVillage_14 : decode cX4_addVillage 14 = .ok (.ireturn, 1) := by decide +kernel
theorem dX4_addVillage_15 : decode cX4_addVillage 15 = .ok (.aload_n 0, 1) := by decide +kernel
theorem dX4_addVillage_16 : decode cX4_addVillage 16 = .ok (.getfield 27, 3) := by decide +kernel
theorem dX4_addVillage_19 : decode cX4_addVillage 19 = .ok (.iload 5, 2) := by decide +kernel
theorem dX4_addVillage_21 : decode cX4_addVillage 21 = .ok (.iload_n 1, 1) := by decide +kernel
theorem dX4_addVillage_22 : decode cX4_addVillage 22 = .ok (.iastore, 1) := by decide +kernel
theorem dX4_addVillage_23 : decode cX4_addVillage 23 = .ok (.aload_n 0, 1) := by decide +kernel
theorem dX4_addVillage_24 : decode cX4_addVillage 24 = .ok (.getfield 31, 3) := by decide +kernel
theorem dX4_addVillage_27 : decode cX4_addVillage 27 = .ok (.iconst 3, 1) := by decide +kernel
theorem dX4_addVillage_28 : decode cX4_addVillage 28 = .ok (.iload 5, 2) := by decide +kernel
theorem dX4_addVillage_30 : decode cX4_addVillage 30 = .ok (.imul, 1) := by decide +kernel
theorem dX4_addVillage_31 : decode cX4_addVillage 31 = .ok (.iconst 0, 1) := by decide +kernel
theorem dX4_addVillage_32 : decode cX4_addVillage 32 = .ok (.iadd, 1) := by decide +kernel
theorem dX4_addVillage_33 : decode cX4_addVillage 33 = .ok (.iload_n 2, 1) := by decide +kernel
theorem dX4_addVillage_34 : decode cX4_addVillage 34 = .ok (.iastore, 1) := by decide +kernel
theorem dX4_addVillage_35 : decode cX4_addVillage 35 = .ok (.aload_n 0, 1) := by decide +kernel
theorem dX4_addVillage_36 : decode cX4_addVillage 36 = .ok (.getfield 31, 3) := by decide +kernel
theorem dX4_addVillage_39 : decode cX4_addVillage 39 = .ok (.iconst 3, 1) := by decide +kernel
theorem dX4_addVillage_40 : decode cX4_addVillage 40 = .ok (.iload 5, 2) := by decide +kernel
theorem dX4_addVillage_42 : decode cX4_addVillage 42 = .ok (.imul, 1) := by decide +kernel
theorem dX4_addVillage_43 : decode cX4_addVillage 43 = .ok (.iconst 1, 1) := by decide +kernel
theorem dX4_addVillage_44 : decode cX4_addVillage 44 = .ok (.iadd, 1) := by decide +kernel
theorem dX4_addVillage_45 : decode cX4_addVillage 45 = .ok (.iload_n 3, 1) := by decide +kernel
theorem dX4_addVillage_46 : decode cX4_addVillage 46 = .ok (.iastore, 1) := by decide +kernel
theorem dX4_addVillage_47 : decode cX4_addVillage 47 = .ok (.aload_n 0, 1) := by decide +kernel
theorem dX4_addVillage_48 : decode cX4_addVillage 48 = .ok (.getfield 31, 3) := by decide +kernel
theorem dX4_addVillage_51 : decode cX4_addVillage 51 = .ok (.iconst 3, 1) := by decide +kernel
theorem dX4_addVillage_52 : decode cX4_addVillage 52 = .ok (.iload 5, 2) := by decide +kernel
theorem dX4_addVillage_54 : decode cX4_addVillage 54 = .ok (.imul, 1) := by decide +kernel
theorem dX4_addVillage_55 : decode cX4_addVillage 55 = .ok (.iconst 2, 1) := by decide +kernel
theorem dX4_addVillage_56 : decode cX4_addVillage 56 = .ok (.iadd, 1) := by decide +kernel
theorem dX4_addVillage_57 : decode cX4_addVillage 57 = .ok (.iload 4, 2) := by decide +kernel
theorem dX4_addVillage_59 : decode cX4_addVillage 59 = .ok (.iastore, 1) := by decide +kernel
theorem dX4_addVillage_60 : decode cX4_addVillage 60 = .ok (.aload_n 0, 1) := by decide +kernel
theorem dX4_addVillage_61 : decode cX4_addVillage 61 = .ok (.dup, 1) := by decide +kernel
theorem dX4_addVillage_62 : decode cX4_addVillage 62 = .ok (.getfield 18, 3) := by decide +kernel
theorem dX4_addVillage_65 : decode cX4_addVillage 65 = .ok (.iconst 1, 1) := by decide +kernel
theorem dX4_addVillage_66 : decode cX4_addVillage 66 = .ok (.iadd, 1) := by decide +kernel
theorem dX4_addVillage_67 : decode cX4_addVillage 67 = .ok (.putfield 18, 3) := by decide +kernel
theorem dX4_addVillage_70 : decode cX4_addVillage 70 = .ok (.aload_n 0, 1) := by decide +kernel
theorem dX4_addVillage_71 : decode cX4_addVillage 71 = .ok (.invokevirtual 81, 3) := by decide +kernel
theorem dX4_addVillage_74 : decode cX4_addVillage 74 = .ok (.iload 5, 2) := by decide +kernel
theorem dX4_addVillage_76 : decode cX4_addVillage 76 = .ok (.ireturn, 1) := by decide +kernel
theorem dX4_addThing_0 : decode cX4_addThing 0 = .ok (.aload_n 0, 1) := by decide +kernel
theorem dX4_addThing_1 : decode cX4_addThing 1 = .ok (.getfield 21, 3) := by decide +kernel
theorem dX4_addThing_4 : decode cX4_addThing 4 = .ok (.istore_n 2, 1) := by decide +kernel
theorem dX4_addThing_5 : decode cX4_addThing 5 = .ok (.iload_n 2, 1) := by decide +kernel
theorem dX4_addThing_6 : decode cX4_addThing 6 = .ok (.bipush 10, 2) := by decide +kernel
theorem dX4_addThing_8 : decode cX4_addThing 8 = .ok (.if_icmp .lt 5, 3) := by decide +kernel
theorem dX4_addThing_11 : decode cX4_addThing 11 = .ok (.iconst (-1), 1) := by decide +kernel
theorem dX4_addThing_12 : decode cX4_addThing 12 = .ok (.ireturn, 1) := by decide +kernel
theorem dX4_addThing_13 : decode cX4_addThing 13 = .ok (.aload_n 0, 1) := by decide +kernel
theorem dX4_addThing_14 : decode cX4_addThing 14 = .ok (.getfield 39, 3) := by decide +kernel
theorem dX4_addThing_17 : decode cX4_addThing 17 = .ok (.iload_n 2, 1) := by decide +kernel
theorem dX4_addThing_18 : decode cX4_addThing 18 = .ok (.aload_n 1, 1) := by decide +kernel
theorem dX4_addThing_19 : decode cX4_addThing 19 = .ok (.aastore, 1) := by decide +kernel
theorem dX4_addThing_20 : decode cX4_addThing 20 = .ok (.aload_n 0, 1) := by decide +kernel
theorem dX4_addThing_21 : decode cX4_addThing 21 = .ok (.getfield 43, 3) := by decide +kernel
theorem dX4_addThing_24 : decode cX4_addThing 24 = .ok (.iload_n 2, 1) := by decide +kernel
theorem dX4_addThing_25 : decode cX4_addThing 25 = .ok (.iconst (-1), 1) := by decide +kernel
theorem dX4_addThing_26 : decode cX4_addThing 26 = .ok (.iastore, 1) := by decide +kernel
theorem dX4_addThing_27 : decode cX4_addThing 27 = .ok (.aload_n 0, 1) := by decide +kernel
theorem dX4_addThing_28 : decode cX4_addThing 28 = .ok (.getfield 49, 3) := by decide +kernel
theorem dX4_addThing_31 : decode cX4_addThing 31 = .ok (.iload_n 2, 1) := by decide +kernel
theorem dX4_addThing_32 : decode cX4_addThing 32 = .ok (.aload_n 1, 1) := by decide +kernel
theorem dX4_addThing_33 : decode cX4_addThing 33 = .ok (.invokevirtual 84, 3) := by decide +kernel
theorem dX4_addThing_36 : decode cX4_addThing 36 = .ok (.iastore, 1) := by decide +kernel
theorem dX4_addThing_37 : decode cX4_addThing 37 = .ok (.aload_n 0, 1) := by decide +kernel
theorem dX4_addThing_38 : decode cX4_addThing 38 = .ok (.iload_n 2, 1) := by decide +kernel
theorem dX4_addThing_39 : decode cX4_addThing 39 = .ok (.iconst 1, 1) := by decide +kernel
theorem dX4_addThing_40 : decode cX4_addThing 40 = .ok (.invokevirtual 88, 3) := by decide +kernel
theorem dX4_addThing_43 : decode cX4_addThing 43 = .ok (.aload_n 0, 1) := by decide +kernel
theorem dX4_addThing_44 : decode cX4_addThing 44 = .ok (.dup, 1) := by decide +kernel
theorem dX4_addThing_45 : decode cX4_addThing 45 = .ok (.getfield 21, 3) := by decide +kernel
theorem dX4_addThing_48 : decode cX4_addThing 48 = .ok (.iconst 1, 1) := by decide +kernel
theorem dX4_addThing_49 : decode cX4_addThing 49 = .ok (.iadd, 1) := by decide +kernel
theorem dX4_addThing_50 : decode cX4_addThing 50 = .ok (.putfield 21, 3) := by decide +kernel
theorem dX4_addThing_53 : decode cX4_addThing 53 = .ok (.aload_n 0, 1) := by decide +kernel
theorem dX4_addThing_54 : decode cX4_addThing 54 = .ok (.invokevirtual 81, 3) := by decide +kernel
theorem dX4_addThing_57 : decode cX4_addThing 57 = .ok (.iload_n 2, 1) := by decide +kernel
theorem dX4_addThing_58 : decode cX4_addThing 58 = .ok (.ireturn, 1) := by decide +kernel
theorem dX4_isOpen_0 : decode cX4_isOpen 0 = .ok (.aload_n 0, 1) := by decide +kernel
theorem dX4_isOpen_1 : decode cX4_isOpen 1 = .ok (.getfield 24, 3) := by decide +kernel
theorem dX4_isOpen_4 : decode cX4_isOpen 4 = .ok (.iload_n 1, 1) := by decide +kernel
theorem dX4_isOpen_5 : decode cX4_isOpen 5 = .ok (.ishr, 1) := by decide +kernel
theorem dX4_isOpen_6 : decode cX4_isOpen 6 = .ok (.iconst 1, 1) := by decide +kernel
theorem dX4_isOpen_7 : decode cX4_isOpen 7 = .ok (.iand, 1) := by decide +kernel
theorem dX4_isOpen_8 : decode cX4_isOpen 8 = .ok (.ifCond .eq 7, 3) := by decide +kernel
theorem dX4_isOpen_11 : decode cX4_isOpen 11 = .ok (.iconst 1, 1) := by decide +kernel
theorem dX4_isOpen_12 : decode cX4_isOpen 12 = .ok (.goto 4, 3) := by decide +kernel
theorem dX4_isOpen_15 : decode cX4_isOpen 15 = .ok (.iconst 0, 1) := by decide +kernel
theorem dX4_isOpen_16 : decode cX4_isOpen 16 = .ok (.ireturn, 1) := by decide +kernel
theorem dX4_setOpen_0 : decode cX4_setOpen 0 = .ok (.aload_n 0, 1) := by decide +kernel
theorem dX4_setOpen_1 : decode cX4_setOpen 1 = .ok (.iload_n 2, 1) := by decide +kernel
theorem dX4_setOpen_2 : decode cX4_setOpen 2 = .ok (.ifCond .eq 14, 3) := by decide +kernel
theorem dX4_setOpen_5 : decode cX4_setOpen 5 = .ok (.aload_n 0, 1) := by decide +kernel
theorem dX4_setOpen_6 : decode cX4_setOpen 6 = .ok (.getfield 24, 3) := by decide +kernel
theorem dX4_setOpen_9 : decode cX4_setOpen 9 = .ok (.iconst 1, 1) := by decide +kernel
theorem dX4_setOpen_10 : decode cX4_setOpen 10 = .ok (.iload_n 1, 1) := by decide +kernel
theorem dX4_setOpen_11 : decode cX4_setOpen 11 = .ok (.ishl, 1) := by decide +kernel
theorem dX4_setOpen_12 : decode cX4_setOpen 12 = .ok (.ior, 1) := by decide +kernel
theorem dX4_setOpen_13 : decode cX4_setOpen 13 = .ok (.goto 13, 3) := by decide +kernel
theorem dX4_setOpen_16 : decode cX4_setOpen 16 = .ok (.aload_n 0, 1) := by decide +kernel
theorem dX4_setOpen_17 : decode cX4_setOpen 17 = .ok (.getfield 24, 3) := by decide +kernel
theorem dX4_setOpen_20 : decode cX4_setOpen 20 = .ok (.iconst 1, 1) := by decide +kernel
theorem dX4_setOpen_21 : decode cX4_setOpen 21 = .ok (.iload_n 1, 1) := by decide +kernel
theorem dX4_setOpen_22 : decode cX4_setOpen 22 = .ok (.ishl, 1) := by decide +kernel
theorem dX4_setOpen_23 : decode cX4_setOpen 23 = .ok (.iconst (-1), 1) := by decide +kernel
theorem dX4_setOpen_24 : decode cX4_setOpen 24 = .ok (.ixor, 1) := by decide +kernel
theorem dX4_setOpen_25 : decode cX4_setOpen 25 = .ok (.iand, 1) := by decide +kernel
theorem dX4_setOpen_26 : decode cX4_setOpen 26 = .ok (.putfield 24, 3) := by decide +kernel
theorem dX4_setOpen_29 : decode cX4_setOpen 29 = .ok (.return_, 1) := by decide +kernel
theorem dX4_isMended_0 : decode cX4_isMended 0 = .ok (.aload_n 0, 1) := by decide +kernel
theorem dX4_isMended_1 : decode cX4_isMended 1 = .ok (.getfield 34, 3) := by decide +kernel
theorem dX4_isMended_4 : decode cX4_isMended 4 = .ok (.iload_n 1, 1) := by decide +kernel
theorem dX4_isMended_5 : decode cX4_isMended 5 = .ok (.iaload, 1) := by decide +kernel
theorem dX4_isMended_6 : decode cX4_isMended 6 = .ok (.iload_n 2, 1) := by decide +kernel
theorem dX4_isMended_7 : decode cX4_isMended 7 = .ok (.ishr, 1) := by decide +kernel
theorem dX4_isMended_8 : decode cX4_isMended 8 = .ok (.iconst 1, 1) := by decide +kernel
theorem dX4_isMended_9 : decode cX4_isMended 9 = .ok (.iand, 1) := by decide +kernel
theorem dX4_isMended_10 : decode cX4_isMended 10 = .ok (.ifCond .eq 7, 3) := by decide +kernel
theorem dX4_isMended_13 : decode cX4_isMended 13 = .ok (.iconst 1, 1) := by decide +kernel
theorem dX4_isMended_14 : decode cX4_isMended 14 = .ok (.goto 4, 3) := by decide +kernel
theorem dX4_isMended_17 : decode cX4_isMended 17 = .ok (.iconst 0, 1) := by decide +kernel
theorem dX4_isMended_18 : decode cX4_isMended 18 = .ok (.ireturn, 1) := by decide +kernel
theorem dX4_setMended_0 : decode cX4_setMended 0 = .ok (.aload_n 0, 1) := by decide +kernel
theorem dX4_setMended_1 : decode cX4_setMended 1 = .ok (.getfield 34, 3) := by decide +kernel
theorem dX4_setMended_4 : decode cX4_setMended 4 = .ok (.iload_n 1, 1) := by decide +kernel
theorem dX4_setMended_5 : decode cX4_setMended 5 = .ok (.iload_n 3, 1) := by decide +kernel
theorem dX4_setMended_6 : decode cX4_setMended 6 = .ok (.ifCond .eq 16, 3) := by decide +kernel
theorem dX4_setMended_9 : decode cX4_setMended 9 = .ok (.aload_n 0, 1) := by decide +kernel
theorem dX4_setMended_10 : decode cX4_setMended 10 = .ok (.getfield 34, 3) := by decide +kernel
theorem dX4_setMended_13 : decode cX4_setMended 13 = .ok (.iload_n 1, 1) := by decide +kernel
theorem dX4_setMended_14 : decode cX4_setMended 14 = .ok (.iaload, 1) := by decide +kernel
theorem dX4_setMended_15 : decode cX4_setMended 15 = .ok (.iconst 1, 1) := by decide +kernel
theorem dX4_setMended_16 : decode cX4_setMended 16 = .ok (.iload_n 2, 1) := by decide +kernel
theorem dX4_setMended_17 : decode cX4_setMended 17 = .ok (.ishl, 1) := by decide +kernel
theorem dX4_setMended_18 : decode cX4_setMended 18 = .ok (.ior, 1) := by decide +kernel
theorem dX4_setMended_19 : decode cX4_setMended 19 = .ok (.goto 15, 3) := by decide +kernel
theorem dX4_setMended_22 : decode cX4_setMended 22 = .ok (.aload_n 0, 1) := by decide +kernel
theorem dX4_setMended_23 : decode cX4_setMended 23 = .ok (.getfield 34, 3) := by decide +kernel
theorem dX4_setMended_26 : decode cX4_setMended 26 = .ok (.iload_n 1, 1) := by decide +kernel
theorem dX4_setMended_27 : decode cX4_setMended 27 = .ok (.iaload, 1) := by decide +kernel
theorem dX4_setMended_28 : decode cX4_setMended 28 = .ok (.iconst 1, 1) := by decide +kernel
theorem dX4_setMended_29 : decode cX4_setMended 29 = .ok (.iload_n 2, 1) := by decide +kernel
theorem dX4_setMended_30 : decode cX4_setMended 30 = .ok (.ishl, 1) := by decide +kernel
theorem dX4_setMended_31 : decode cX4_setMended 31 = .ok (.iconst (-1), 1) := by decide +kernel
theorem dX4_setMended_32 : decode cX4_setMended 32 = .ok (.ixor, 1) := by decide +kernel
theorem dX4_setMended_33 : decode cX4_setMended 33 = .ok (.iand, 1) := by decide +kernel
theorem dX4_setMended_34 : decode cX4_setMended 34 = .ok (.iastore, 1) := by decide +kernel
theorem dX4_setMended_35 : decode cX4_setMended 35 = .ok (.aload_n 0, 1) := by decide +kernel
theorem dX4_setMended_36 : decode cX4_setMended 36 = .ok (.getfield 34, 3) := by decide +kernel
theorem dX4_setMended_39 : decode cX4_setMended 39 = .ok (.iload_n 2, 1) := by decide +kernel
theorem dX4_setMended_40 : decode cX4_setMended 40 = .ok (.iload_n 3, 1) := by decide +kernel
theorem dX4_setMended_41 : decode cX4_setMended 41 = .ok (.ifCond .eq 16, 3) := by decide +kernel
theorem dX4_setMended_44 : decode cX4_setMended 44 = .ok (.aload_n 0, 1) := by decide +kernel
theorem dX4_setMended_45 : decode cX4_setMended 45 = .ok (.getfield 34, 3) := by decide +kernel
theorem dX4_setMended_48 : decode cX4_setMended 48 = .ok (.iload_n 2, 1) := by decide +kernel
theorem dX4_setMended_49 : decode cX4_setMended 49 = .ok (.iaload, 1) := by decide +kernel
theorem dX4_setMended_50 : decode cX4_setMended 50 = .ok (.iconst 1, 1) := by decide +kernel
theorem dX4_setMended_51 : decode cX4_setMended 51 = .ok (.iload_n 1, 1) := by decide +kernel
theorem dX4_setMended_52 : decode cX4_setMended 52 = .ok (.ishl, 1) := by decide +kernel
theorem dX4_setMended_53 : decode cX4_setMended 53 = .ok (.ior, 1) := by decide +kernel
theorem dX4_setMended_54 : decode cX4_setMended 54 = .ok (.goto 15, 3) := by decide +kernel
theorem dX4_setMended_57 : decode cX4_setMended 57 = .ok (.aload_n 0, 1) := by decide +kernel
theorem dX4_setMended_58 : decode cX4_setMended 58 = .ok (.getfield 34, 3) := by decide +kernel
theorem dX4_setMended_61 : decode cX4_setMended 61 = .ok (.iload_n 2, 1) := by decide +kernel
theorem dX4_setMended_62 : decode cX4_setMended 62 = .ok (.iaload, 1) := by decide +kernel
theorem dX4_setMended_63 : decode cX4_setMended 63 = .ok (.iconst 1, 1) := by decide +kernel
theorem dX4_setMended_64 : decode cX4_setMended 64 = .ok (.iload_n 1, 1) := by decide +kernel
theorem dX4_setMended_65 : decode cX4_setMended 65 = .ok (.ishl, 1) := by decide +kernel
theorem dX4_setMended_66 : decode cX4_setMended 66 = .ok (.iconst (-1), 1) := by decide +kernel
theorem dX4_setMended_67 : decode cX4_setMended 67 = .ok (.ixor, 1) := by decide +kernel
theorem dX4_setMended_68 : decode cX4_setMended 68 = .ok (.iand, 1) := by decide +kernel
theorem dX4_setMended_69 : decode cX4_setMended 69 = .ok (.iastore, 1) := by decide +kernel
theorem dX4_setMended_70 : decode cX4_setMended 70 = .ok (.aload_n 0, 1) := by decide +kernel
theorem dX4_setMended_71 : decode cX4_setMended 71 = .ok (.invokevirtual 81, 3) := by decide +kernel
theorem dX4_setMended_74 : decode cX4_setMended 74 = .ok (.return_, 1) := by decide +kernel
theorem dX4_wayOf_0 : decode cX4_wayOf 0 = .ok (.aload_n 0, 1) := by decide +kernel
theorem dX4_wayOf_1 : decode cX4_wayOf 1 = .ok (.getfield 27, 3) := by decide +kernel
theorem dX4_wayOf_4 : decode cX4_wayOf 4 = .ok (.iload_n 1, 1) := by decide +kernel
theorem dX4_wayOf_5 : decode cX4_wayOf 5 = .ok (.iaload, 1) := by decide +kernel
theorem dX4_wayOf_6 : decode cX4_wayOf 6 = .ok (.bipush 100, 2) := by decide +kernel
theorem dX4_wayOf_8 : decode cX4_wayOf 8 = .ok (.idiv, 1) := by decide +kernel
theorem dX4_wayOf_9 : decode cX4_wayOf 9 = .ok (.aload_n 0, 1) := by decide +kernel
theorem dX4_wayOf_10 : decode cX4_wayOf 10 = .ok (.getfield 27, 3) := by decide +kernel
theorem dX4_wayOf_13 : decode cX4_wayOf 13 = .ok (.iload_n 2, 1) := by decide +kernel
theorem dX4_wayOf_14 : decode cX4_wayOf 14 = .ok (.iaload, 1) := by decide +kernel
theorem dX4_wayOf_15 : decode cX4_wayOf 15 = .ok (.bipush 100, 2) := by decide +kernel
theorem dX4_wayOf_17 : decode cX4_wayOf 17 = .ok (.idiv, 1) := by decide +kernel
theorem dX4_wayOf_18 : decode cX4_wayOf 18 = .ok (.isub, 1) := by decide +kernel
theorem dX4_wayOf_19 : decode cX4_wayOf 19 = .ok (.invokestatic 92, 3) := by decide +kernel
theorem dX4_wayOf_22 : decode cX4_wayOf 22 = .ok (.istore_n 3, 1) := by decide +kernel
theorem dX4_wayOf_23 : decode cX4_wayOf 23 = .ok (.aload_n 0, 1) := by decide +kernel
theorem dX4_wayOf_24 : decode cX4_wayOf 24 = .ok (.getfield 27, 3) := by decide +kernel
theorem dX4_wayOf_27 : decode cX4_wayOf 27 = .ok (.iload_n 1, 1) := by decide +kernel
theorem dX4_wayOf_28 : decode cX4_wayOf 28 = .ok (.iaload, 1) := by decide +kernel
theorem dX4_wayOf_29 : decode cX4_wayOf 29 = .ok (.bipush 100, 2) := by decide +kernel
theorem dX4_wayOf_31 : decode cX4_wayOf 31 = .ok (.irem, 1) := by decide +kernel
theorem dX4_wayOf_32 : decode cX4_wayOf 32 = .ok (.aload_n 0, 1) := by decide +kernel
theorem dX4_wayOf_33 : decode cX4_wayOf 33 = .ok (.getfield 27, 3) := by decide +kernel
theorem dX4_wayOf_36 : decode cX4_wayOf 36 = .ok (.iload_n 2, 1) := by decide +kernel
theorem dX4_wayOf_37 : decode cX4_wayOf 37 = .ok (.iaload, 1) := by decide +kernel
theorem dX4_wayOf_38 : decode cX4_wayOf 38 = .ok (.bipush 100, 2) := by decide +kernel
theorem dX4_wayOf_40 : decode cX4_wayOf 40 = .ok (.irem, 1) := by decide +kernel
theorem dX4_wayOf_41 : decode cX4_wayOf 41 = .ok (.isub, 1) := by decide +kernel
theorem dX4_wayOf_42 : decode cX4_wayOf 42 = .ok (.invokestatic 92, 3) := by decide +kernel
theorem dX4_wayOf_45 : decode cX4_wayOf 45 = .ok (.istore 4, 2) := by decide +kernel
theorem dX4_wayOf_47 : decode cX4_wayOf 47 = .ok (.iload_n 3, 1) := by decide +kernel
theorem dX4_wayOf_48 : decode cX4_wayOf 48 = .ok (.iload 4, 2) := by decide +kernel
theorem dX4_wayOf_50 : decode cX4_wayOf 50 = .ok (.iadd, 1) := by decide +kernel
theorem dX4_wayOf_51 : decode cX4_wayOf 51 = .ok (.aload_n 0, 1) := by decide +kernel
theorem dX4_wayOf_52 : decode cX4_wayOf 52 = .ok (.getfield 15, 3) := by decide +kernel
theorem dX4_wayOf_55 : decode cX4_wayOf 55 = .ok (.imul, 1) := by decide +kernel
theorem dX4_wayOf_56 : decode cX4_wayOf 56 = .ok (.istore 5, 2) := by decide +kernel
theorem dX4_wayOf_58 : decode cX4_wayOf 58 = .ok (.aload_n 0, 1) := by decide +kernel
theorem dX4_wayOf_59 : decode cX4_wayOf 59 = .ok (.iload_n 1, 1) := by decide +kernel
theorem dX4_wayOf_60 : decode cX4_wayOf 60 = .ok (.iload_n 2, 1) := by decide +kernel
theorem dX4_wayOf_61 : decode cX4_wayOf 61 = .ok (.invokevirtual 98, 3) := by decide +kernel
theorem dX4_wayOf_64 : decode cX4_wayOf 64 = .ok (.ifCond .eq 10, 3) := by decide +kernel
theorem dX4_wayOf_67 : decode cX4_wayOf 67 = .ok (.iload 5, 2) := by decide +kernel
theorem dX4_wayOf_69 : decode cX4_wayOf 69 = .ok (.iconst 2, 1) := by decide +kernel
theorem dX4_wayOf_70 : decode cX4_wayOf 70 = .ok (.idiv, 1) := by decide +kernel
theorem dX4_wayOf_71 : decode cX4_wayOf 71 = .ok (.goto 5, 3) := by decide +kernel
theorem dX4_wayOf_74 : decode cX4_wayOf 74 = .ok (.iload 5, 2) := by decide +kernel
theorem dX4_wayOf_76 : decode cX4_wayOf 76 = .ok (.ireturn, 1) := by decide +kernel
theorem dX4_servedFrom_0 : decode cX4_servedFrom 0 = .ok (.iconst 0, 1) := by decide +kernel
theorem dX4_servedFrom_1 : decode cX4_servedFrom 1 = .ok (.istore_n 3, 1) := by decide +kernel
theorem dX4_servedFrom_2 : decode cX4_servedFrom 2 = .ok (.iconst 0, 1) := by decide +kernel
theorem dX4_servedFrom_3 : decode cX4_servedFrom 3 = .ok (.istore 4, 2) := by decide +kernel
theorem dX4_servedFrom_5 : decode cX4_servedFrom 5 = .ok (.iload 4, 2) := by decide +kernel
theorem dX4_servedFrom_7 : decode cX4_servedFrom 7 = .ok (.aload_n 0, 1) := by decide +kernel
theorem dX4_servedFrom_8 : decode cX4_servedFrom 8 = .ok (.getfield 18, 3) := by decide +kernel
theorem dX4_servedFrom_11 : decode cX4_servedFrom 11 = .ok (.if_icmp .ge 27, 3) := by decide +kernel
theorem dX4_servedFrom_14 : decode cX4_servedFrom 14 = .ok (.aload_n 0, 1) := by decide +kernel
theorem dX4_servedFrom_15 : decode cX4_servedFrom 15 = .ok (.iload_n 1, 1) := by decide +kernel
theorem dX4_servedFrom_16 : decode cX4_servedFrom 16 = .ok (.iload 4, 2) := by decide +kernel
theorem dX4_servedFrom_18 : decode cX4_servedFrom 18 = .ok (.invokevirtual 102, 3) := by decide +kernel
theorem dX4_servedFrom_21 : decode cX4_servedFrom 21 = .ok (.iload_n 2, 1) := by decide +kernel
theorem dX4_servedFrom_22 : decode cX4_servedFrom 22 = .ok (.if_icmp .gt 10, 3) := by decide +kernel
theorem dX4_servedFrom_25 : decode cX4_servedFrom 25 = .ok (.iload_n 3, 1) := by decide +kernel
theorem dX4_servedFrom_26 : decode cX4_servedFrom 26 = .ok (.iconst 1, 1) := by decide +kernel
theorem dX4_servedFrom_27 : decode cX4_servedFrom 27 = .ok (.iload 4, 2) := by decide +kernel
theorem dX4_servedFrom_29 : decode cX4_servedFrom 29 = .ok (.ishl, 1) := by decide +kernel
theorem dX4_servedFrom_30 : decode cX4_servedFrom 30 = .ok (.ior, 1) := by decide +kernel
theorem dX4_servedFrom_31 : decode cX4_servedFrom 31 = .ok (.istore_n 3, 1) := by decide +kernel
theorem dX4_servedFrom_32 : decode cX4_servedFrom 32 = .ok (.iinc 4 1, 3) := by decide +kernel
theorem dX4_servedFrom_35 : decode cX4_servedFrom 35 = .ok (.goto (-30), 3) := by decide +kernel
theorem dX4_servedFrom_38 : decode cX4_servedFrom 38 = .ok (.iload_n 3, 1) := by decide +kernel
theorem dX4_servedFrom_39 : decode cX4_servedFrom 39 = .ok (.ireturn, 1) := by decide +kernel
theorem dX4_survey_0 : decode cX4_survey 0 = .ok (.iconst 0, 1) := by decide +kernel
theorem dX4_survey_1 : decode cX4_survey 1 = .ok (.istore_n 1, 1) := by decide +kernel
theorem dX4_survey_2 : decode cX4_survey 2 = .ok (.iload_n 1, 1) := by decide +kernel
theorem dX4_survey_3 : decode cX4_survey 3 = .ok (.aload_n 0, 1) := by decide +kernel
theorem dX4_survey_4 : decode cX4_survey 4 = .ok (.getfield 21, 3) := by decide +kernel
theorem dX4_survey_7 : decode cX4_survey 7 = .ok (.if_icmp .ge 37, 3) := by decide +kernel
theorem dX4_survey_10 : decode cX4_survey 10 = .ok (.aload_n 0, 1) := by decide +kernel
theorem dX4_survey_11 : decode cX4_survey 11 = .ok (.getfield 46, 3) := by decide +kernel
theorem dX4_survey_14 : decode cX4_survey 14 = .ok (.iload_n 1, 1) := by decide +kernel
theorem dX4_survey_15 : decode cX4_survey 15 = .ok (.aload_n 0, 1) := by decide +kernel
theorem dX4_survey_16 : decode cX4_survey 16 = .ok (.aload_n 0, 1) := by decide +kernel
theorem dX4_survey_17 : decode cX4_survey 17 = .ok (.getfield 39, 3) := by decide +kernel
theorem dX4_survey_20 : decode cX4_survey 20 = .ok (.iload_n 1, 1) := by decide +kernel
theorem dX4_survey_21 : decode cX4_survey 21 = .ok (.aaload, 1) := by decide +kernel
theorem dX4_survey_22 : decode cX4_survey 22 = .ok (.getfield 106, 3) := by decide +kernel
theorem dX4_survey_25 : decode cX4_survey 25 = .ok (.aload_n 0, 1) := by decide +kernel
theorem dX4_survey_26 : decode cX4_survey 26 = .ok (.getfield 39, 3) := by decide +kernel
theorem dX4_survey_29 : decode cX4_survey 29 = .ok (.iload_n 1, 1) := by decide +kernel
theorem dX4_survey_30 : decode cX4_survey 30 = .ok (.aaload, 1) := by decide +kernel
theorem dX4_survey_31 : decode cX4_survey 31 = .ok (.invokevirtual 109, 3) := by decide +kernel
theorem dX4_survey_34 : decode cX4_survey 34 = .ok (.invokevirtual 112, 3) := by decide +kernel
theorem dX4_survey_37 : decode cX4_survey 37 = .ok (.iastore, 1) := by decide +kernel
theorem dX4_survey_38 : decode cX4_survey 38 = .ok (.iinc 1 1, 3) := by decide +kernel
theorem dX4_survey_41 : decode cX4_survey 41 = .ok (.goto (-39), 3) := by decide +kernel
theorem dX4_survey_44 : decode cX4_survey 44 = .ok (.return_, 1) := by decide +kernel
theorem dX4_peopleOf_0 : decode cX4_peopleOf 0 = .ok (.iload_n 2, 1) := by decide +kernel
theorem dX4_peopleOf_1 : decode cX4_peopleOf 1 = .ok (.iconst 3, 1) := by decide +kernel
theorem dX4_peopleOf_2 : decode cX4_peopleOf 2 = .ok (.if_icmp .ne 11, 3) := by decide +kernel
theorem dX4_peopleOf_5 : decode cX4_peopleOf 5 = .ok (.aload_n 0, 1) := by decide +kernel
theorem dX4_peopleOf_6 : decode cX4_peopleOf 6 = .ok (.iload_n 1, 1) := by decide +kernel
theorem dX4_peopleOf_7 : decode cX4_peopleOf 7 = .ok (.invokevirtual 115, 3) := by decide +kernel
theorem dX4_peopleOf_10 : decode cX4_peopleOf 10 = .ok (.goto 13, 3) := by decide +kernel
theorem dX4_peopleOf_13 : decode cX4_peopleOf 13 = .ok (.aload_n 0, 1) := by decide +kernel
theorem dX4_peopleOf_14 : decode cX4_peopleOf 14 = .ok (.getfield 31, 3) := by decide +kernel
theorem dX4_peopleOf_17 : decode cX4_peopleOf 17 = .ok (.iconst 3, 1) := by decide +kernel
theorem dX4_peopleOf_18 : decode cX4_peopleOf 18 = .ok (.iload_n 1, 1) := by decide +kernel
theorem dX4_peopleOf_19 : decode cX4_peopleOf 19 = .ok (.imul, 1) := by decide +kernel
theorem dX4_peopleOf_20 : decode cX4_peopleOf 20 = .ok (.iload_n 2, 1) := by decide +kernel
theorem dX4_peopleOf_21 : decode cX4_peopleOf 21 = .ok (.iadd, 1) := by decide +kernel
theorem dX4_peopleOf_22 : decode cX4_peopleOf 22 = .ok (.iaload, 1) := by decide +kernel
theorem dX4_peopleOf_23 : decode cX4_peopleOf 23 = .ok (.ireturn, 1) := by decide +kernel
theorem dX4_allOf_0 : decode cX4_allOf 0 = .ok (.iconst 3, 1) := by decide +kernel
theorem dX4_allOf_1 : decode cX4_allOf 1 = .ok (.iload_n 1, 1) := by decide +kernel
theorem dX4_allOf_2 : decode cX4_allOf 2 = .ok (.imul, 1) := by decide +kernel
theorem dX4_allOf_3 : decode cX4_allOf 3 = .ok (.istore_n 2, 1) := by decide +kernel
theorem dX4_allOf_4 : decode cX4_allOf 4 = .ok (.aload_n 0, 1) := by decide +kernel
theorem dX4_allOf_5 : decode cX4_allOf 5 = .ok (.getfield 31, 3) := by decide +kernel
theorem dX4_allOf_8 : decode cX4_allOf 8 = .ok (.iload_n 2, 1) := by decide +kernel
theorem dX4_allOf_9 : decode cX4_allOf 9 = .ok (.iconst 0, 1) := by decide +kernel
theorem dX4_allOf_10 : decode cX4_allOf 10 = .ok (.iadd, 1) := by decide +kernel
theorem dX4_allOf_11 : decode cX4_allOf 11 = .ok (.iaload, 1) := by decide +kernel
theorem dX4_allOf_12 : decode cX4_allOf 12 = .ok (.aload_n 0, 1) := by decide +kernel
theorem dX4_allOf_13 : decode cX4_allOf 13 = .ok (.getfield 31, 3) := by decide +kernel
theorem dX4_allOf_16 : decode cX4_allOf 16 = .ok (.iload_n 2, 1) := by decide +kernel
theorem dX4_allOf_17 : decode cX4_allOf 17 = .ok (.iconst 1, 1) := by decide +kernel
theorem dX4_allOf_18 : decode cX4_allOf 18 = .ok (.iadd, 1) := by decide +kernel
theorem dX4_allOf_19 : decode cX4_allOf 19 = .ok (.iaload, 1) := by decide +kernel
theorem dX4_allOf_20 : decode cX4_allOf 20 = .ok (.iadd, 1) := by decide +kernel
theorem dX4_allOf_21 : decode cX4_allOf 21 = .ok (.aload_n 0, 1) := by decide +kernel
theorem dX4_allOf_22 : decode cX4_allOf 22 = .ok (.getfield 31, 3) := by decide +kernel
theorem dX4_allOf_25 : decode cX4_allOf 25 = .ok (.iload_n 2, 1) := by decide +kernel
theorem dX4_allOf_26 : decode cX4_allOf 26 = .ok (.iconst 2, 1) := by decide +kernel
theorem dX4_allOf_27 : decode cX4_allOf 27 = .ok (.iadd, 1) := by decide +kernel
theorem dX4_allOf_28 : decode cX4_allOf 28 = .ok (.iaload, 1) := by decide +kernel
theorem dX4_allOf_29 : decode cX4_allOf 29 = .ok (.iadd, 1) := by decide +kernel
theorem dX4_allOf_30 : decode cX4_allOf 30 = .ok (.ireturn, 1) := by decide +kernel
theorem dX4_allPeople_0 : decode cX4_allPeople 0 = .ok (.iconst 0, 1) := by decide +kernel
theorem dX4_allPeople_1 : decode cX4_allPeople 1 = .ok (.istore_n 1, 1) := by decide +kernel
theorem dX4_allPeople_2 : decode cX4_allPeople 2 = .ok (.iconst 0, 1) := by decide +kernel
theorem dX4_allPeople_3 : decode cX4_allPeople 3 = .ok (.istore_n 2, 1) := by decide +kernel
theorem dX4_allPeople_4 : decode cX4_allPeople 4 = .ok (.iload_n 2, 1) := by decide +kernel
theorem dX4_allPeople_5 : decode cX4_allPeople 5 = .ok (.aload_n 0, 1) := by decide +kernel
theorem dX4_allPeople_6 : decode cX4_allPeople 6 = .ok (.getfield 18, 3) := by decide +kernel
theorem dX4_allPeople_9 : decode cX4_allPeople 9 = .ok (.if_icmp .ge 17, 3) := by decide +kernel
theorem dX4_allPeople_12 : decode cX4_allPeople 12 = .ok (.iload_n 1, 1) := by decide +kernel
theorem dX4_allPeople_13 : decode cX4_allPeople 13 = .ok (.aload_n 0, 1) := by decide +kernel
theorem dX4_allPeople_14 : decode cX4_allPeople 14 = .ok (.iload_n 2, 1) := by decide +kernel
theorem dX4_allPeople_15 : decode cX4_allPeople 15 = .ok (.invokevirtual 115, 3) := by decide +kernel
theorem dX4_allPeople_18 : decode cX4_allPeople 18 = .ok (.iadd, 1) := by decide +kernel
theorem dX4_allPeople_19 : decode cX4_allPeople 19 = .ok (.istore_n 1, 1) := by decide +kernel
theorem dX4_allPeople_20 : decode cX4_allPeople 20 = .ok (.iinc 2 1, 3) := by decide +kernel
theorem dX4_allPeople_23 : decode cX4_allPeople 23 = .ok (.goto (-19), 3) := by decide +kernel
theorem dX4_allPeople_26 : decode cX4_allPeople 26 = .ok (.iload_n 1, 1) := by decide +kernel
theorem dX4_allPeople_27 : decode cX4_allPeople 27 = .ok (.ireturn, 1) := by decide +kernel
theorem dX4_mostPeopled_0 : decode cX4_mostPeopled 0 = .ok (.iconst (-1), 1) := by decide +kernel
theorem dX4_mostPeopled_1 : decode cX4_mostPeopled 1 = .ok (.istore_n 2, 1) := by decide +kernel
theorem dX4_mostPeopled_2 : decode cX4_mostPeopled 2 = .ok (.iconst 0, 1) := by decide +kernel
theorem dX4_mostPeopled_3 : decode cX4_mostPeopled 3 = .ok (.istore_n 3, 1) := by decide +kernel
theorem dX4_mostPeopled_4 : decode cX4_mostPeopled 4 = .ok (.iload_n 3, 1) := by decide +kernel
theorem dX4_mostPeopled_5 : decode cX4_mostPeopled 5 = .ok (.aload_n 0, 1) := by decide +kernel
theorem dX4_mostPeopled_6 : decode cX4_mostPeopled 6 = .ok (.getfield 18, 3) := by decide +kernel
theorem dX4_mostPeopled_9 : decode cX4_mostPeopled 9 = .ok (.if_icmp .ge 48, 3) := by decide +kernel
theorem dX4_mostPeopled_12 : decode cX4_mostPeopled 12 = .ok (.iload_n 1, 1) := by decide +kernel
theorem dX4_mostPeopled_13 : decode cX4_mostPeopled 13 = .ok (.iload_n 3, 1) := by decide +kernel
theorem dX4_mostPeopled_14 : decode cX4_mostPeopled 14 = .ok (.ishr, 1) := by decide +kernel
theorem dX4_mostPeopled_15 : decode cX4_mostPeopled 15 = .ok (.iconst 1, 1) := by decide +kernel
theorem dX4_mostPeopled_16 : decode cX4_mostPeopled 16 = .ok (.iand, 1) := by decide +kernel
theorem dX4_mostPeopled_17 : decode cX4_mostPeopled 17 = .ok (.ifCond .ne 7, 3) := by decide +kernel
theorem dX4_mostPeopled_20 : decode cX4_mostPeopled 20 = .ok (.iconst 1, 1) := by decide +kernel
theorem dX4_mostPeopled_21 : decode cX4_mostPeopled 21 = .ok (.goto 4, 3) := by decide +kernel
theorem dX4_mostPeopled_24 : decode cX4_mostPeopled 24 = .ok (.iconst 0, 1) := by decide +kernel
theorem dX4_mostPeopled_25 : decode cX4_mostPeopled 25 = .ok (.istore 4, 2) := by decide +kernel
theorem dX4_mostPeopled_27 : decode cX4_mostPeopled 27 = .ok (.iload 4, 2) := by decide +kernel
theorem dX4_mostPeopled_29 : decode cX4_mostPeopled 29 = .ok (.ifCond .eq 22, 3) := by decide +kernel
theorem dX4_mostPeopled_32 : decode cX4_mostPeopled 32 = .ok (.iload_n 2, 1) := by decide +kernel
theorem dX4_mostPeopled_33 : decode cX4_mostPeopled 33 = .ok (.ifCond .lt 16, 3) := by decide +kernel
theorem dX4_mostPeopled_36 : decode cX4_mostPeopled 36 = .ok (.aload_n 0, 1) := by decide +kernel
theorem dX4_mostPeopled_37 : decode cX4_mostPeopled 37 = .ok (.iload_n 3, 1) := by decide +kernel
theorem dX4_mostPeopled_38 : decode cX4_mostPeopled 38 = .ok (.invokevirtual 115, 3) := by decide +kernel
theorem dX4_mostPeopled_41 : decode cX4_mostPeopled 41 = .ok (.aload_n 0, 1) := by decide +kernel
theorem dX4_mostPeopled_42 : decode cX4_mostPeopled 42 = .ok (.iload_n 2, 1) := by decide +kernel
theorem dX4_mostPeopled_43 : decode cX4_mostPeopled 43 = .ok (.invokevirtual 115, 3) := by decide +kernel
theorem dX4_mostPeopled_46 : decode cX4_mostPeopled 46 = .ok (.if_icmp .le 5, 3) := by decide +kernel
theorem dX4_mostPeopled_49 : decode cX4_mostPeopled 49 = .ok (.iload_n 3, 1) := by decide +kernel
theorem dX4_mostPeopled_50 : decode cX4_mostPeopled 50 = .ok (.istore_n 2, 1) := by decide +kernel
theorem dX4_mostPeopled_51 : decode cX4_mostPeopled 51 = .ok (.iinc 3 1, 3) := by decide +kernel
theorem dX4_mostPeopled_54 : decode cX4_mostPeopled 54 = .ok (.goto (-50), 3) := by decide +kernel
theorem dX4_mostPeopled_57 : decode cX4_mostPeopled 57 = .ok (.iload_n 2, 1) := by decide +kernel
theorem dX4_mostPeopled_58 : decode cX4_mostPeopled 58 = .ok (.ireturn, 1) := by decide +kernel
theorem dX4_hasPeopleOf_0 : decode cX4_hasPeopleOf 0 = .ok (.iconst 0, 1) := by decide +kernel
theorem dX4_hasPeopleOf_1 : decode cX4_hasPeopleOf 1 = .ok (.istore_n 2, 1) := by decide +kernel
theorem dX4_hasPeopleOf_2 : decode cX4_hasPeopleOf 2 = .ok (.iload_n 2, 1) := by decide +kernel
theorem dX4_hasPeopleOf_3 : decode cX4_hasPeopleOf 3 = .ok (.iconst 3, 1) := by decide +kernel
theorem dX4_hasPeopleOf_4 : decode cX4_hasPeopleOf 4 = .ok (.aload_n 0, 1) := by decide +kernel
theorem dX4_hasPeopleOf_5 : decode cX4_hasPeopleOf 5 = .ok (.getfield 18, 3) := by decide +kernel
theorem dX4_hasPeopleOf_8 : decode cX4_hasPeopleOf 8 = .ok (.imul, 1) := by decide +kernel
theorem dX4_hasPeopleOf_9 : decode cX4_hasPeopleOf 9 = .ok (.if_icmp .ge 26, 3) := by decide +kernel
theorem dX4_hasPeopleOf_12 : decode cX4_hasPeopleOf 12 = .ok (.aload_n 0, 1) := by decide +kernel
theorem dX4_hasPeopleOf_13 : decode cX4_hasPeopleOf 13 = .ok (.getfield 31, 3) := by decide +kernel
theorem dX4_hasPeopleOf_16 : decode cX4_hasPeopleOf 16 = .ok (.iload_n 2, 1) := by decide +kernel
theorem dX4_hasPeopleOf_17 : decode cX4_hasPeopleOf 17 = .ok (.iaload, 1) := by decide +kernel
theorem dX4_hasPeopleOf_18 : decode cX4_hasPeopleOf 18 = .ok (.aload_n 1, 1) := by decide +kernel
theorem dX4_hasPeopleOf_19 : decode cX4_hasPeopleOf 19 = .ok (.getfield 31, 3) := by decide +kernel
theorem dX4_hasPeopleOf_22 : decode cX4_hasPeopleOf 22 = .ok (.iload_n 2, 1) := by decide +kernel
theorem dX4_hasPeopleOf_23 : decode cX4_hasPeopleOf 23 = .ok (.iaload, 1) := by decide +kernel
theorem dX4_hasPeopleOf_24 : decode cX4_hasPeopleOf 24 = .ok (.if_icmp .eq 5, 3) := by decide +kernel
theorem dX4_hasPeopleOf_27 : decode cX4_hasPeopleOf 27 = .ok (.iconst 0, 1) := by decide +kernel
theorem dX4_hasPeopleOf_28 : decode cX4_hasPeopleOf 28 = .ok (.ireturn, 1) := by decide +kernel
theorem dX4_hasPeopleOf_29 : decode cX4_hasPeopleOf 29 = .ok (.iinc 2 1, 3) := by decide +kernel
theorem dX4_hasPeopleOf_32 : decode cX4_hasPeopleOf 32 = .ok (.goto (-30), 3) := by decide +kernel
theorem dX4_hasPeopleOf_35 : decode cX4_hasPeopleOf 35 = .ok (.iconst 1, 1) := by decide +kernel
theorem dX4_hasPeopleOf_36 : decode cX4_hasPeopleOf 36 = .ok (.ireturn, 1) := by decide +kernel
theorem dX4_takePeopleOf_0 : decode cX4_takePeopleOf 0 = .ok (.aload_n 1, 1) := by decide +kernel
theorem dX4_takePeopleOf_1 : decode cX4_takePeopleOf 1 = .ok (.getfield 31, 3) := by decide +kernel
theorem dX4_takePeopleOf_4 : decode cX4_takePeopleOf 4 = .ok (.iconst 0, 1) := by decide +kernel
theorem dX4_takePeopleOf_5 : decode cX4_takePeopleOf 5 = .ok (.aload_n 0, 1) := by decide +kernel
theorem dX4_takePeopleOf_6 : decode cX4_takePeopleOf 6 = .ok (.getfield 31, 3) := by decide +kernel
theorem dX4_takePeopleOf_9 : decode cX4_takePeopleOf 9 = .ok (.iconst 0, 1) := by decide +kernel
theorem dX4_takePeopleOf_10 : decode cX4_takePeopleOf 10 = .ok (.aload_n 0, 1) := by decide +kernel
theorem dX4_takePeopleOf_11 : decode cX4_takePeopleOf 11 = .ok (.getfield 31, 3) := by decide +kernel
theorem dX4_takePeopleOf_14 : decode cX4_takePeopleOf 14 = .ok (.arraylength, 1) := by decide +kernel
theorem dX4_takePeopleOf_15 : decode cX4_takePeopleOf 15 = .ok (.invokestatic 75, 3) := by decide +kernel
theorem dX4_takePeopleOf_18 : decode cX4_takePeopleOf 18 = .ok (.return_, 1) := by decide +kernel
theorem dX4_firstOpen_0 : decode cX4_firstOpen 0 = .ok (.iconst 0, 1) := by decide +kernel
theorem dX4_firstOpen_1 : decode cX4_firstOpen 1 = .ok (.istore_n 2, 1) := by decide +kernel
theorem dX4_firstOpen_2 : decode cX4_firstOpen 2 = .ok (.iconst 0, 1) := by decide +kernel
theorem dX4_firstOpen_3 : decode cX4_firstOpen 3 = .ok (.istore_n 3, 1) := by decide +kernel
theorem dX4_firstOpen_4 : decode cX4_firstOpen 4 = .ok (.iload_n 3, 1) := by decide +kernel
theorem dX4_firstOpen_5 : decode cX4_firstOpen 5 = .ok (.aload_n 0, 1) := by decide +kernel
theorem dX4_firstOpen_6 : decode cX4_firstOpen 6 = .ok (.getfield 21, 3) := by decide +kernel
theorem dX4_firstOpen_9 : decode cX4_firstOpen 9 = .ok (.if_icmp .ge 28, 3) := by decide +kernel
theorem dX4_firstOpen_12 : decode cX4_firstOpen 12 = .ok (.iload_n 2, 1) := by decide +kernel
theorem dX4_firstOpen_13 : decode cX4_firstOpen 13 = .ok (.invokestatic 118, 3) := by decide +kernel
theorem dX4_firstOpen_16 : decode cX4_firstOpen 16 = .ok (.iload_n 1, 1) := by decide +kernel
theorem dX4_firstOpen_17 : decode cX4_firstOpen 17 = .ok (.if_icmp .ge 20, 3) := by decide +kernel
theorem dX4_firstOpen_20 : decode cX4_firstOpen 20 = .ok (.iload_n 2, 1) := by decide +kernel
theorem dX4_firstOpen_21 : decode cX4_firstOpen 21 = .ok (.aload_n 0, 1) := by decide +kernel
theorem dX4_firstOpen_22 : decode cX4_firstOpen 22 = .ok (.getfield 24, 3) := by decide +kernel
theorem dX4_firstOpen_25 : decode cX4_firstOpen 25 = .ok (.iconst 1, 1) := by decide +kernel
theorem dX4_firstOpen_26 : decode cX4_firstOpen 26 = .ok (.iload_n 3, 1) := by decide +kernel
theorem dX4_firstOpen_27 : decode cX4_firstOpen 27 = .ok (.ishl, 1) := by decide +kernel
theorem dX4_firstOpen_28 : decode cX4_firstOpen 28 = .ok (.iand, 1) := by decide +kernel
theorem dX4_firstOpen_29 : decode cX4_firstOpen 29 = .ok (.ior, 1) := by decide +kernel
theorem dX4_firstOpen_30 : decode cX4_firstOpen 30 = .ok (.istore_n 2, 1) := by decide +kernel
theorem dX4_firstOpen_31 : decode cX4_firstOpen 31 = .ok (.iinc 3 1, 3) := by decide +kernel
theorem dX4_firstOpen_34 : decode cX4_firstOpen 34 = .ok (.goto (-30), 3) := by decide +kernel
theorem dX4_firstOpen_37 : decode cX4_firstOpen 37 = .ok (.iload_n 2, 1) := by decide +kernel
theorem dX4_firstOpen_38 : decode cX4_firstOpen 38 = .ok (.ireturn, 1) := by decide +kernel
theorem dX4_costOf_0 : decode cX4_costOf 0 = .ok (.iconst 0, 1) := by decide +kernel
theorem dX4_costOf_1 : decode cX4_costOf 1 = .ok (.istore_n 2, 1) := by decide +kernel
theorem dX4_costOf_2 : decode cX4_costOf 2 = .ok (.iconst 0, 1) := by decide +kernel
theorem dX4_costOf_3 : decode cX4_costOf 3 = .ok (.istore_n 3, 1) := by decide +kernel
theorem dX4_costOf_4 : decode cX4_costOf 4 = .ok (.iload_n 3, 1) := by decide +kernel
theorem dX4_costOf_5 : decode cX4_costOf 5 = .ok (.aload_n 0, 1) := by decide +kernel
theorem dX4_costOf_6 : decode cX4_costOf 6 = .ok (.getfield 21, 3) := by decide +kernel
theorem dX4_costOf_9 : decode cX4_costOf 9 = .ok (.if_icmp .ge 29, 3) := by decide +kernel
theorem dX4_costOf_12 : decode cX4_costOf 12 = .ok (.iload_n 1, 1) := by decide +kernel
theorem dX4_costOf_13 : decode cX4_costOf 13 = .ok (.iload_n 3, 1) := by decide +kernel
theorem dX4_costOf_14 : decode cX4_costOf 14 = .ok (.ishr, 1) := by decide +kernel
theorem dX4_costOf_15 : decode cX4_costOf 15 = .ok (.iconst 1, 1) := by decide +kernel
theorem dX4_costOf_16 : decode cX4_costOf 16 = .ok (.iand, 1) := by decide +kernel
theorem dX4_costOf_17 : decode cX4_costOf 17 = .ok (.ifCond .eq 15, 3) := by decide +kernel
theorem dX4_costOf_20 : decode cX4_costOf 20 = .ok (.iload_n 2, 1) := by decide +kernel
theorem dX4_costOf_21 : decode cX4_costOf 21 = .ok (.aload_n 0, 1) := by decide +kernel
theorem dX4_costOf_22 : decode cX4_costOf 22 = .ok (.getfield 39, 3) := by decide +kernel
theorem dX4_costOf_25 : decode cX4_costOf 25 = .ok (.iload_n 3, 1) := by decide +kernel
theorem dX4_costOf_26 : decode cX4_costOf 26 = .ok (.aaload, 1) := by decide +kernel
theorem dX4_costOf_27 : decode cX4_costOf 27 = .ok (.getfield 123, 3) := by decide +kernel
theorem dX4_costOf_30 : decode cX4_costOf 30 = .ok (.iadd, 1) := by decide +kernel
theorem dX4_costOf_31 : decode cX4_costOf 31 = .ok (.istore_n 2, 1) := by decide +kernel
theorem dX4_costOf_32 : decode cX4_costOf 32 = .ok (.iinc 3 1, 3) := by decide +kernel
theorem dX4_costOf_35 : decode cX4_costOf 35 = .ok (.goto (-31), 3) := by decide +kernel
theorem dX4_costOf_38 : decode cX4_costOf 38 = .ok (.iload_n 2, 1) := by decide +kernel
theorem dX4_costOf_39 : decode cX4_costOf 39 = .ok (.ireturn, 1) := by decide +kernel
theorem dX4_comfortOf_0 : decode cX4_comfortOf 0 = .ok (.iconst 0, 1) := by decide +kernel
theorem dX4_comfortOf_1 : decode cX4_comfortOf 1 = .ok (.istore_n 2, 1) := by decide +kernel
theorem dX4_comfortOf_2 : decode cX4_comfortOf 2 = .ok (.iconst 0, 1) := by decide +kernel
theorem dX4_comfortOf_3 : decode cX4_comfortOf 3 = .ok (.istore_n 3, 1) := by decide +kernel
theorem dX4_comfortOf_4 : decode cX4_comfortOf 4 = .ok (.iload_n 3, 1) := by decide +kernel
theorem dX4_comfortOf_5 : decode cX4_comfortOf 5 = .ok (.aload_n 0, 1) := by decide +kernel
theorem dX4_comfortOf_6 : decode cX4_comfortOf 6 = .ok (.getfield 21, 3) := by decide +kernel
theorem dX4_comfortOf_9 : decode cX4_comfortOf 9 = .ok (.if_icmp .ge 39, 3) := by decide +kernel
theorem dX4_comfortOf_12 : decode cX4_comfortOf 12 = .ok (.aload_n 0, 1) := by decide +kernel
theorem dX4_comfortOf_13 : decode cX4_comfortOf 13 = .ok (.iload_n 3, 1) := by decide +kernel
theorem dX4_comfortOf_14 : decode cX4_comfortOf 14 = .ok (.invokevirtual 126, 3) := by decide +kernel
theorem dX4_comfortOf_17 : decode cX4_comfortOf 17 = .ok (.ifCond .eq 25, 3) := by decide +kernel
theorem dX4_comfortOf_20 : decode cX4_comfortOf 20 = .ok (.aload_n 0, 1) := by decide +kernel
theorem dX4_comfortOf_21 : decode cX4_comfortOf 21 = .ok (.getfield 46, 3) := by decide +kernel
theorem dX4_comfortOf_24 : decode cX4_comfortOf 24 = .ok (.iload_n 3, 1) := by decide +kernel
theorem dX4_comfortOf_25 : decode cX4_comfortOf 25 = .ok (.iaload, 1) := by decide +kernel
theorem dX4_comfortOf_26 : decode cX4_comfortOf 26 = .ok (.iload_n 1, 1) := by decide +kernel
theorem dX4_comfortOf_27 : decode cX4_comfortOf 27 = .ok (.ishr, 1) := by decide +kernel
theorem dX4_comfortOf_28 : decode cX4_comfortOf 28 = .ok (.iconst 1, 1) := by decide +kernel
theorem dX4_comfortOf_29 : decode cX4_comfortOf 29 = .ok (.iand, 1) := by decide +kernel
theorem dX4_comfortOf_30 : decode cX4_comfortOf 30 = .ok (.ifCond .eq 12, 3) := by decide +kernel
theorem dX4_comfortOf_33 : decode cX4_comfortOf 33 = .ok (.iload_n 2, 1) := by decide +kernel
theorem dX4_comfortOf_34 : decode cX4_comfortOf 34 = .ok (.aload_n 0, 1) := by decide +kernel
theorem dX4_comfortOf_35 : decode cX4_comfortOf 35 = .ok (.getfield 49, 3) := by decide +kernel
theorem dX4_comfortOf_38 : decode cX4_comfortOf 38 = .ok (.iload_n 3, 1) := by decide +kernel
theorem dX4_comfortOf_39 : decode cX4_comfortOf 39 = .ok (.iaload, 1) := by decide +kernel
theorem dX4_comfortOf_40 : decode cX4_comfortOf 40 = .ok (.iadd, 1) := by decide +kernel
theorem dX4_comfortOf_41 : decode cX4_comfortOf 41 = .ok (.istore_n 2, 1) := by decide +kernel
theorem dX4_comfortOf_42 : decode cX4_comfortOf 42 = .ok (.iinc 3 1, 3) := by decide +kernel
theorem dX4_comfortOf_45 : decode cX4_comfortOf 45 = .ok (.goto (-41), 3) := by decide +kernel
theorem dX4_comfortOf_48 : decode cX4_comfortOf 48 = .ok (.iload_n 2, 1) := by decide +kernel
theorem dX4_comfortOf_49 : decode cX4_comfortOf 49 = .ok (.ireturn, 1) := by decide +kernel
theorem dX4_weighComforts_0 : decode cX4_weighComforts 0 = .ok (.iconst 0, 1) := by decide +kernel
theorem dX4_weighComforts_1 : decode cX4_weighComforts 1 = .ok (.istore_n 1, 1) := by decide +kernel
theorem dX4_weighComforts_2 : decode cX4_weighComforts 2 = .ok (.iload_n 1, 1) := by decide +kernel
theorem dX4_weighComforts_3 : decode cX4_weighComforts 3 = .ok (.aload_n 0, 1) := by decide +kernel
theorem dX4_weighComforts_4 : decode cX4_weighComforts 4 = .ok (.getfield 18, 3) := by decide +kernel
theorem dX4_weighComforts_7 : decode cX4_weighComforts 7 = .ok (.if_icmp .ge 20, 3) := by decide +kernel
theorem dX4_weighComforts_10 : decode cX4_weighComforts 10 = .ok (.aload_n 0, 1) := by decide +kernel
theorem dX4_weighComforts_11 : decode cX4_weighComforts 11 = .ok (.getfield 69, 3) := by decide +kernel
theorem dX4_weighComforts_14 : decode cX4_weighComforts 14 = .ok (.iload_n 1, 1) := by decide +kernel
theorem dX4_weighComforts_15 : decode cX4_weighComforts 15 = .ok (.aload_n 0, 1) := by decide +kernel
theorem dX4_weighComforts_16 : decode cX4_weighComforts 16 = .ok (.iload_n 1, 1) := by decide +kernel
theorem dX4_weighComforts_17 : decode cX4_weighComforts 17 = .ok (.invokevirtual 130, 3) := by decide +kernel
theorem dX4_weighComforts_20 : decode cX4_weighComforts 20 = .ok (.iastore, 1) := by decide +kernel
theorem dX4_weighComforts_21 : decode cX4_weighComforts 21 = .ok (.iinc 1 1, 3) := by decide +kernel
theorem dX4_weighComforts_24 : decode cX4_weighComforts 24 = .ok (.goto (-22), 3) := by decide +kernel
theorem dX4_weighComforts_27 : decode cX4_weighComforts 27 = .ok (.return_, 1) := by decide +kernel
theorem dX4_mostComfort_0 : decode cX4_mostComfort 0 = .ok (.iconst 0, 1) := by decide +kernel
theorem dX4_mostComfort_1 : decode cX4_mostComfort 1 = .ok (.istore_n 1, 1) := by decide +kernel
theorem dX4_mostComfort_2 : decode cX4_mostComfort 2 = .ok (.iconst 1, 1) := by decide +kernel
theorem dX4_mostComfort_3 : decode cX4_mostComfort 3 = .ok (.istore_n 2, 1) := by decide +kernel
theorem dX4_mostComfort_4 : decode cX4_mostComfort 4 = .ok (.iload_n 2, 1) := by decide +kernel
theorem dX4_mostComfort_5 : decode cX4_mostComfort 5 = .ok (.aload_n 0, 1) := by decide +kernel
theorem dX4_mostComfort_6 : decode cX4_mostComfort 6 = .ok (.getfield 18, 3) := by decide +kernel
theorem dX4_mostComfort_9 : decode cX4_mostComfort 9 = .ok (.if_icmp .ge 26, 3) := by decide +kernel
theorem dX4_mostComfort_12 : decode cX4_mostComfort 12 = .ok (.aload_n 0, 1) := by decide +kernel
theorem dX4_mostComfort_13 : decode cX4_mostComfort 13 = .ok (.getfield 69, 3) := by decide +kernel
theorem dX4_mostComfort_16 : decode cX4_mostComfort 16 = .ok (.iload_n 2, 1) := by decide +kernel
theorem dX4_mostComfort_17 : decode cX4_mostComfort 17 = .ok (.iaload, 1) := by decide +kernel
theorem dX4_mostComfort_18 : decode cX4_mostComfort 18 = .ok (.aload_n 0, 1) := by decide +kernel
theorem dX4_mostComfort_19 : decode cX4_mostComfort 19 = .ok (.getfield 69, 3) := by decide +kernel
theorem dX4_mostComfort_22 : decode cX4_mostComfort 22 = .ok (.iload_n 1, 1) := by decide +kernel
theorem dX4_mostComfort_23 : decode cX4_mostComfort 23 = .ok (.iaload, 1) := by decide +kernel
theorem dX4_mostComfort_24 : decode cX4_mostComfort 24 = .ok (.if_icmp .le 5, 3) := by decide +kernel
theorem dX4_mostComfort_27 : decode cX4_mostComfort 27 = .ok (.iload_n 2, 1) := by decide +kernel
theorem dX4_mostComfort_28 : decode cX4_mostComfort 28 = .ok (.istore_n 1, 1) := by decide +kernel
theorem dX4_mostComfort_29 : decode cX4_mostComfort 29 = .ok (.iinc 2 1, 3) := by decide +kernel
theorem dX4_mostComfort_32 : decode cX4_mostComfort 32 = .ok (.goto (-28), 3) := by decide +kernel
theorem dX4_mostComfort_35 : decode cX4_mostComfort 35 = .ok (.iload_n 1, 1) := by decide +kernel
theorem dX4_mostComfort_36 : decode cX4_mostComfort 36 = .ok (.ireturn, 1) := by decide +kernel
theorem dX4_allComfort_0 : decode cX4_allComfort 0 = .ok (.iconst 0, 1) := by decide +kernel
theorem dX4_allComfort_1 : decode cX4_allComfort 1 = .ok (.istore_n 1, 1) := by decide +kernel
theorem dX4_allComfort_2 : decode cX4_allComfort 2 = .ok (.iconst 0, 1) := by decide +kernel
theorem dX4_allComfort_3 : decode cX4_allComfort 3 = .ok (.istore_n 2, 1) := by decide +kernel
theorem dX4_allComfort_4 : decode cX4_allComfort 4 = .ok (.iload_n 2, 1) := by decide +kernel
theorem dX4_allComfort_5 : decode cX4_allComfort 5 = .ok (.aload_n 0, 1) := by decide +kernel
theorem dX4_allComfort_6 : decode cX4_allComfort 6 = .ok (.getfield 18, 3) := by decide +kernel
theorem dX4_allComfort_9 : decode cX4_allComfort 9 = .ok (.if_icmp .ge 17, 3) := by decide +kernel
theorem dX4_allComfort_12 : decode cX4_allComfort 12 = .ok (.iload_n 1, 1) := by decide +kernel
theorem dX4_allComfort_13 : decode cX4_allComfort 13 = .ok (.aload_n 0, 1) := by decide +kernel
theorem dX4_allComfort_14 : decode cX4_allComfort 14 = .ok (.iload_n 2, 1) := by decide +kernel
theorem dX4_allComfort_15 : decode cX4_allComfort 15 = .ok (.invokevirtual 130, 3) := by decide +kernel
theorem dX4_allComfort_18 : decode cX4_allComfort 18 = .ok (.iadd, 1) := by decide +kernel
theorem dX4_allComfort_19 : decode cX4_allComfort 19 = .ok (.istore_n 1, 1) := by decide +kernel
theorem dX4_allComfort_20 : decode cX4_allComfort 20 = .ok (.iinc 2 1, 3) := by decide +kernel
theorem dX4_allComfort_23 : decode cX4_allComfort 23 = .ok (.goto (-19), 3) := by decide +kernel
theorem dX4_allComfort_26 : decode cX4_allComfort 26 = .ok (.iload_n 1, 1) := by decide +kernel
theorem dX4_allComfort_27 : decode cX4_allComfort 27 = .ok (.ireturn, 1) := by decide +kernel
theorem dX4_isToShut_0 : decode cX4_isToShut 0 = .ok (.aload_n 0, 1) := by decide +kernel
theorem dX4_isToShut_1 : decode cX4_isToShut 1 = .ok (.getfield 65, 3) := by decide +kernel
theorem dX4_isToShut_4 : decode cX4_isToShut 4 = .ok (.iconst 0, 1) := by decide +kernel
theorem dX4_isToShut_5 : decode cX4_isToShut 5 = .ok (.aaload, 1) := by decide +kernel
theorem dX4_isToShut_6 : decode cX4_isToShut 6 = .ok (.astore 5, 2) := by decide +kernel
theorem dX4_isToShut_8 : decode cX4_isToShut 8 = .ok (.aload 5, 2) := by decide +kernel
theorem dX4_isToShut_10 : decode cX4_isToShut 10 = .ok (.ifnonnull 16, 3) := by decide +kernel
theorem dX4_isToShut_13 : decode cX4_isToShut 13 = .ok (.iload_n 1, 1) := by decide +kernel
theorem dX4_isToShut_14 : decode cX4_isToShut 14 = .ok (.iload_n 2, 1) := by decide +kernel
theorem dX4_isToShut_15 : decode cX4_isToShut 15 = .ok (.if_icmp .ge 7, 3) := by decide +kernel
theorem dX4_isToShut_18 : decode cX4_isToShut 18 = .ok (.iconst 1, 1) := by decide +kernel
theorem dX4_isToShut_19 : decode cX4_isToShut 19 = .ok (.goto 25, 3) := by decide +kernel
theorem dX4_isToShut_22 : decode cX4_isToShut 22 = .ok (.iconst 0, 1) := by decide +kernel
theorem dX4_isToShut_23 : decode cX4_isToShut 23 = .ok (.goto 21, 3) := by decide +kernel
theorem dX4_isToShut_26 : decode cX4_isToShut 26 = .ok (.aload 5, 2) := by decide +kernel
theorem dX4_isToShut_28 : decode cX4_isToShut 28 = .ok (.iload_n 1, 1) := by decide +kernel
theorem dX4_isToShut_29 : decode cX4_isToShut 29 = .ok (.iload_n 2, 1) := by decide +kernel
theorem dX4_isToShut_30 : decode cX4_isToShut 30 = .ok (.iload_n 3, 1) := by decide +kernel
theorem dX4_isToShut_31 : decode cX4_isToShut 31 = .ok (.iload 4, 2) := by decide +kernel
theorem dX4_isToShut_33 : decode cX4_isToShut 33 = .ok (.invokevirtual 133, 3) := by decide +kernel
theorem dX4_isToShut_36 : decode cX4_isToShut 36 = .ok (.ifCond .eq 7, 3) := by decide +kernel
theorem dX4_isToShut_39 : decode cX4_isToShut 39 = .ok (.iconst 1, 1) := by decide +kernel
theorem dX4_isToShut_40 : decode cX4_isToShut 40 = .ok (.goto 4, 3) := by decide +kernel
theorem dX4_isToShut_43 : decode cX4_isToShut 43 = .ok (.iconst 0, 1) := by decide +kernel
theorem dX4_isToShut_44 : decode cX4_isToShut 44 = .ok (.ireturn, 1) := by decide +kernel
theorem dX4_shareToGo_0 : decode cX4_shareToGo 0 = .ok (.aload_n 0, 1) := by decide +kernel
theorem dX4_shareToGo_1 : decode cX4_shareToGo 1 = .ok (.getfield 65, 3) := by decide +kernel
theorem dX4_shareToGo_4 : decode cX4_shareToGo 4 = .ok (.iconst 1, 1) := by decide +kernel
theorem dX4_shareToGo_5 : decode cX4_shareToGo 5 = .ok (.aaload, 1) := by decide +kernel
theorem dX4_shareToGo_6 : decode cX4_shareToGo 6 = .ok (.astore 4, 2) := by decide +kernel
theorem dX4_shareToGo_8 : decode cX4_shareToGo 8 = .ok (.aload 4, 2) := by decide +kernel
theorem dX4_shareToGo_10 : decode cX4_shareToGo 10 = .ok (.ifnonnull 13, 3) := by decide +kernel
theorem dX4_shareToGo_13 : decode cX4_shareToGo 13 = .ok (.iconst 3, 1) := by decide +kernel
theorem dX4_shareToGo_14 : decode cX4_shareToGo 14 = .ok (.iload_n 1, 1) := by decide +kernel
theorem dX4_shareToGo_15 : decode cX4_shareToGo 15 = .ok (.isub, 1) := by decide +kernel
theorem dX4_shareToGo_16 : decode cX4_shareToGo 16 = .ok (.iconst 4, 1) := by decide +kernel
theorem dX4_shareToGo_17 : decode cX4_shareToGo 17 = .ok (.imul, 1) := by decide +kernel
theorem dX4_shareToGo_18 : decode cX4_shareToGo 18 = .ok (.iload_n 2, 1) := by decide +kernel
theorem dX4_shareToGo_19 : decode cX4_shareToGo 19 = .ok (.isub, 1) := by decide +kernel
theorem dX4_shareToGo_20 : decode cX4_shareToGo 20 = .ok (.goto 12, 3) := by decide +kernel
theorem dX4_shareToGo_23 : decode cX4_shareToGo 23 = .ok (.aload 4, 2) := by decide +kernel
theorem dX4_shareToGo_25 : decode cX4_shareToGo 25 = .ok (.iload_n 1, 1) := by decide +kernel
theorem dX4_shareToGo_26 : decode cX4_shareToGo 26 = .ok (.iload_n 2, 1) := by decide +kernel
theorem dX4_shareToGo_27 : decode cX4_shareToGo 27 = .ok (.iload_n 3, 1) := by decide +kernel
theorem dX4_shareToGo_28 : decode cX4_shareToGo 28 = .ok (.iconst 0, 1) := by decide +kernel
theorem dX4_shareToGo_29 : decode cX4_shareToGo 29 = .ok (.invokevirtual 133, 3) := by decide +kernel
theorem dX4_shareToGo_32 : decode cX4_shareToGo 32 = .ok (.istore 5, 2) := by decide +kernel
theorem dX4_shareToGo_34 : decode cX4_shareToGo 34 = .ok (.iconst 0, 1) := by decide +kernel
theorem dX4_shareToGo_35 : decode cX4_shareToGo 35 = .ok (.bipush 100, 2) := by decide +kernel
theorem dX4_shareToGo_37 : decode cX4_shareToGo 37 = .ok (.iload 5, 2) := by decide +kernel
theorem dX4_shareToGo_39 : decode cX4_shareToGo 39 = .ok (.invokestatic 137, 3) := by decide +kernel
theorem dX4_shareToGo_42 : decode cX4_shareToGo 42 = .ok (.invokestatic 140, 3) := by decide +kernel
theorem dX4_shareToGo_45 : decode cX4_shareToGo 45 = .ok (.ireturn, 1) := by decide +kernel
theorem dX4_shareToCome_0 : decode cX4_shareToCome 0 = .ok (.aload_n 0, 1) := by decide +kernel
theorem dX4_shareToCome_1 : decode cX4_shareToCome 1 = .ok (.getfield 65, 3) := by decide +kernel
theorem dX4_shareToCome_4 : decode cX4_shareToCome 4 = .ok (.iconst 2, 1) := by decide +kernel
theorem dX4_shareToCome_5 : decode cX4_shareToCome 5 = .ok (.aaload, 1) := by decide +kernel
theorem dX4_shareToCome_6 : decode cX4_shareToCome 6 = .ok (.astore_n 3, 1) := by decide +kernel
theorem dX4_shareToCome_7 : decode cX4_shareToCome 7 = .ok (.aload_n 3, 1) := by decide +kernel
theorem dX4_shareToCome_8 : decode cX4_shareToCome 8 = .ok (.ifnonnull 7, 3) := by decide +kernel
theorem dX4_shareToCome_11 : decode cX4_shareToCome 11 = .ok (.iconst 0, 1) := by decide +kernel
theorem dX4_shareToCome_12 : decode cX4_shareToCome 12 = .ok (.goto 11, 3) := by decide +kernel
theorem dX4_shareToCome_15 : decode cX4_shareToCome 15 = .ok (.aload_n 3, 1) := by decide +kernel
theorem dX4_shareToCome_16 : decode cX4_shareToCome 16 = .ok (.iload_n 1, 1) := by decide +kernel
theorem dX4_shareToCome_17 : decode cX4_shareToCome 17 = .ok (.iload_n 2, 1) := by decide +kernel
theorem dX4_shareToCome_18 : decode cX4_shareToCome 18 = .ok (.iconst 0, 1) := by decide +kernel
theorem dX4_shareToCome_19 : decode cX4_shareToCome 19 = .ok (.iconst 0, 1) := by decide +kernel
theorem dX4_shareToCome_20 : decode cX4_shareToCome 20 = .ok (.invokevirtual 133, 3) := by decide +kernel
theorem dX4_shareToCome_23 : decode cX4_shareToCome 23 = .ok (.istore 4, 2) := by decide +kernel
theorem dX4_shareToCome_25 : decode cX4_shareToCome 25 = .ok (.iconst 0, 1) := by decide +kernel
theorem dX4_shareToCome_26 : decode cX4_shareToCome 26 = .ok (.bipush 20, 2) := by decide +kernel
theorem dX4_shareToCome_28 : decode cX4_shareToCome 28 = .ok (.iload 4, 2) := by decide +kernel
theorem dX4_shareToCome_30 : decode cX4_shareToCome 30 = .ok (.invokestatic 137, 3) := by decide +kernel
theorem dX4_shareToCome_33 : decode cX4_shareToCome 33 = .ok (.invokestatic 140, 3) := by decide +kernel
theorem dX4_shareToCome_36 : decode cX4_shareToCome 36 = .ok (.ireturn, 1) := by decide +kernel
theorem dX4_passYears_0 : decode cX4_passYears 0 = .ok (.iconst 0, 1) := by decide +kernel
theorem dX4_passYears_1 : decode cX4_passYears 1 = .ok (.istore_n 2, 1) := by decide +kernel
theorem dX4_passYears_2 : decode cX4_passYears 2 = .ok (.iload_n 2, 1) := by decide +kernel
theorem dX4_passYears_3 : decode cX4_passYears 3 = .ok (.iload_n 1, 1) := by decide +kernel
theorem dX4_passYears_4 : decode cX4_passYears 4 = .ok (.if_icmp .ge 13, 3) := by decide +kernel
theorem dX4_passYears_7 : decode cX4_passYears 7 = .ok (.aload_n 0, 1) := by decide +kernel
theorem dX4_passYears_8 : decode cX4_passYears 8 = .ok (.invokevirtual 143, 3) := by decide +kernel
theorem dX4_passYears_11 : decode cX4_passYears 11 = .ok (.iinc 2 1, 3) := by decide +kernel
theorem dX4_passYears_14 : decode cX4_passYears 14 = .ok (.goto (-12), 3) := by decide +kernel
theorem dX4_passYears_17 : decode cX4_passYears 17 = .ok (.return_, 1) := by decide +kernel
theorem dX4_passYear_0 : decode cX4_passYear 0 = .ok (.aload_n 0, 1) := by decide +kernel
theorem dX4_passYear_1 : decode cX4_passYear 1 = .ok (.invokevirtual 146, 3) := by decide +kernel
theorem dX4_passYear_4 : decode cX4_passYear 4 = .ok (.aload_n 0, 1) := by decide +kernel
theorem dX4_passYear_5 : decode cX4_passYear 5 = .ok (.invokevirtual 149, 3) := by decide +kernel
theorem dX4_passYear_8 : decode cX4_passYear 8 = .ok (.aload_n 0, 1) := by decide +kernel
theorem dX4_passYear_9 : decode cX4_passYear 9 = .ok (.invokevirtual 152, 3) := by decide +kernel
theorem dX4_passYear_12 : decode cX4_passYear 12 = .ok (.aload_n 0, 1) := by decide +kernel
theorem dX4_passYear_13 : decode cX4_passYear 13 = .ok (.invokevirtual 155, 3) := by decide +kernel
theorem dX4_passYear_16 : decode cX4_passYear 16 = .ok (.aload_n 0, 1) := by decide +kernel
theorem dX4_passYear_17 : decode cX4_passYear 17 = .ok (.invokevirtual 158, 3) := by decide +kernel
theorem dX4_passYear_20 : decode cX4_passYear 20 = .ok (.aload_n 0, 1) := by decide +kernel
theorem dX4_passYear_21 : decode cX4_passYear 21 = .ok (.getfield 60, 3) := by decide +kernel
theorem dX4_passYear_24 : decode cX4_passYear 24 = .ok (.iconst 5, 1) := by decide +kernel
theorem dX4_passYear_25 : decode cX4_passYear 25 = .ok (.dup2, 1) := by decide +kernel
theorem dX4_passYear_26 : decode cX4_passYear 26 = .ok (.iaload, 1) := by decide +kernel
theorem dX4_passYear_27 : decode cX4_passYear 27 = .ok (.aload_n 0, 1) := by decide +kernel
theorem dX4_passYear_28 : decode cX4_passYear 28 = .ok (.getfield 60, 3) := by decide +kernel
theorem dX4_passYear_31 : decode cX4_passYear 31 = .ok (.iconst 4, 1) := by decide +kernel
theorem dX4_passYear_32 : decode cX4_passYear 32 = .ok (.iaload, 1) := by decide +kernel
theorem dX4_passYear_33 : decode cX4_passYear 33 = .ok (.aload_n 0, 1) := by decide +kernel
theorem dX4_passYear_34 : decode cX4_passYear 34 = .ok (.aload_n 0, 1) := by decide +kernel
theorem dX4_passYear_35 : decode cX4_passYear 35 = .ok (.getfield 24, 3) := by decide +kernel
theorem dX4_passYear_38 : decode cX4_passYear 38 = .ok (.invokevirtual 161, 3) := by decide +kernel
theorem dX4_passYear_41 : decode cX4_passYear 41 = .ok (.isub, 1) := by decide +kernel
theorem dX4_passYear_42 : decode cX4_passYear 42 = .ok (.iadd, 1) := by decide +kernel
theorem dX4_passYear_43 : decode cX4_passYear 43 = .ok (.iastore, 1) := by decide +kernel
theorem dX4_passYear_44 : decode cX4_passYear 44 = .ok (.aload_n 0, 1) := by decide +kernel
theorem dX4_passYear_45 : decode cX4_passYear 45 = .ok (.dup, 1) := by decide +kernel
theorem dX4_passYear_46 : decode cX4_passYear 46 = .ok (.getfield 9, 3) := by decide +kernel
theorem dX4_passYear_49 : decode cX4_passYear 49 = .ok (.iconst 1, 1) := by decide +kernel
theorem dX4_passYear_50 : decode cX4_passYear 50 = .ok (.iadd, 1) := by decide +kernel
theorem dX4_passYear_51 : decode cX4_passYear 51 = .ok (.putfield 9, 3) := by decide +kernel
theorem dX4_passYear_54 : decode cX4_passYear 54 = .ok (.return_, 1) := by decide +kernel
theorem dX4_shutByRule_0 : decode cX4_shutByRule 0 = .ok (.iconst 0, 1) := by decide +kernel
theorem dX4_shutByRule_1 : decode cX4_shutByRule 1 = .ok (.istore_n 1, 1) := by decide +kernel
theorem dX4_shutByRule_2 : decode cX4_shutByRule 2 = .ok (.iload_n 1, 1) := by decide +kernel
theorem dX4_shutByRule_3 : decode cX4_shutByRule 3 = .ok (.aload_n 0, 1) := by decide +kernel
theorem dX4_shutByRule_4 : decode cX4_shutByRule 4 = .ok (.getfield 21, 3) := by decide +kernel
theorem dX4_shutByRule_7 : decode cX4_shutByRule 7 = .ok (.if_icmp .ge 82, 3) := by decide +kernel
theorem dX4_shutByRule_10 : decode cX4_shutByRule 10 = .ok (.aload_n 0, 1) := by decide +kernel
theorem dX4_shutByRule_11 : decode cX4_shutByRule 11 = .ok (.iload_n 1, 1) := by decide +kernel
theorem dX4_shutByRule_12 : decode cX4_shutByRule 12 = .ok (.invokevirtual 126, 3) := by decide +kernel
theorem dX4_shutByRule_15 : decode cX4_shutByRule 15 = .ok (.ifCond .eq 68, 3) := by decide +kernel
theorem dX4_shutByRule_18 : decode cX4_shutByRule 18 = .ok (.aload_n 0, 1) := by decide +kernel
theorem dX4_shutByRule_19 : decode cX4_shutByRule 19 = .ok (.getfield 43, 3) := by decide +kernel
theorem dX4_shutByRule_22 : decode cX4_shutByRule 22 = .ok (.iload_n 1, 1) := by decide +kernel
theorem dX4_shutByRule_23 : decode cX4_shutByRule 23 = .ok (.iaload, 1) := by decide +kernel
theorem dX4_shutByRule_24 : decode cX4_shutByRule 24 = .ok (.aload_n 0, 1) := by decide +kernel
theorem dX4_shutByRule_25 : decode cX4_shutByRule 25 = .ok (.getfield 9, 3) := by decide +kernel
theorem dX4_shutByRule_28 : decode cX4_shutByRule 28 = .ok (.if_icmp .lt 6, 3) := by decide +kernel
theorem dX4_shutByRule_31 : decode cX4_shutByRule 31 = .ok (.goto 52, 3) := by decide +kernel
theorem dX4_shutByRule_34 : decode cX4_shutByRule 34 = .ok (.aload_n 0, 1) := by decide +kernel
theorem dX4_shutByRule_35 : decode cX4_shutByRule 35 = .ok (.getfield 39, 3) := by decide +kernel
theorem dX4_shutByRule_38 : decode cX4_shutByRule 38 = .ok (.iload_n 1, 1) := by decide +kernel
theorem dX4_shutByRule_39 : decode cX4_shutByRule 39 = .ok (.aaload, 1) := by decide +kernel
theorem dX4_shutByRule_40 : decode cX4_shutByRule 40 = .ok (.astore_n 2, 1) := by decide +kernel
theorem dX4_shutByRule_41 : decode cX4_shutByRule 41 = .ok (.aload_n 2, 1) := by decide +kernel
theorem dX4_shutByRule_42 : decode cX4_shutByRule 42 = .ok (.aload_n 0, 1) := by decide +kernel
theorem dX4_shutByRule_43 : decode cX4_shutByRule 43 = .ok (.aload_n 2, 1) := by decide +kernel
theorem dX4_shutByRule_44 : decode cX4_shutByRule 44 = .ok (.getfield 106, 3) := by decide +kernel
theorem dX4_shutByRule_47 : decode cX4_shutByRule 47 = .ok (.aload_n 0, 1) := by decide +kernel
theorem dX4_shutByRule_48 : decode cX4_shutByRule 48 = .ok (.getfield 46, 3) := by decide +kernel
theorem dX4_shutByRule_51 : decode cX4_shutByRule 51 = .ok (.iload_n 1, 1) := by decide +kernel
theorem dX4_shutByRule_52 : decode cX4_shutByRule 52 = .ok (.iaload, 1) := by decide +kernel
theorem dX4_shutByRule_53 : decode cX4_shutByRule 53 = .ok (.invokevirtual 164, 3) := by decide +kernel
theorem dX4_shutByRule_56 : decode cX4_shutByRule 56 = .ok (.istore_n 3, 1) := by decide +kernel
theorem dX4_shutByRule_57 : decode cX4_shutByRule 57 = .ok (.aload_n 0, 1) := by decide +kernel
theorem dX4_shutByRule_58 : decode cX4_shutByRule 58 = .ok (.iload_n 3, 1) := by decide +kernel
theorem dX4_shutByRule_59 : decode cX4_shutByRule 59 = .ok (.aload_n 2, 1) := by decide +kernel
theorem dX4_shutByRule_60 : decode cX4_shutByRule 60 = .ok (.getfield 168, 3) := by decide +kernel
theorem dX4_shutByRule_63 : decode cX4_shutByRule 63 = .ok (.aload_n 2, 1) := by decide +kernel
theorem dX4_shutByRule_64 : decode cX4_shutByRule 64 = .ok (.getfield 123, 3) := by decide +kernel
theorem dX4_shutByRule_67 : decode cX4_shutByRule 67 = .ok (.aload_n 0, 1) := by decide +kernel
theorem dX4_shutByRule_68 : decode cX4_shutByRule 68 = .ok (.getfield 9, 3) := by decide +kernel
theorem dX4_shutByRule_71 : decode cX4_shutByRule 71 = .ok (.invokevirtual 171, 3) := by decide +kernel
theorem dX4_shutByRule_74 : decode cX4_shutByRule 74 = .ok (.ifCond .eq 9, 3) := by decide +kernel
theorem dX4_shutByRule_77 : decode cX4_shutByRule 77 = .ok (.aload_n 0, 1) := by decide +kernel
theorem dX4_shutByRule_78 : decode cX4_shutByRule 78 = .ok (.iload_n 1, 1) := by decide +kernel
theorem dX4_shutByRule_79 : decode cX4_shutByRule 79 = .ok (.iconst 0, 1) := by decide +kernel
theorem dX4_shutByRule_80 : decode cX4_shutByRule 80 = .ok (.invokevirtual 88, 3) := by decide +kernel
theorem dX4_shutByRule_83 : decode cX4_shutByRule 83 = .ok (.iinc 1 1, 3) := by decide +kernel
theorem dX4_shutByRule_86 : decode cX4_shutByRule 86 = .ok (.goto (-84), 3) := by decide +kernel
theorem dX4_shutByRule_89 : decode cX4_shutByRule 89 = .ok (.return_, 1) := by decide +kernel
theorem dX4_letGo_0 : decode cX4_letGo 0 = .ok (.aload_n 0, 1) := by decide +kernel
theorem dX4_letGo_1 : decode cX4_letGo 1 = .ok (.invokevirtual 175, 3) := by decide +kernel
theorem dX4_letGo_4 : decode cX4_letGo 4 = .ok (.istore_n 1, 1) := by decide +kernel
theorem dX4_letGo_5 : decode cX4_letGo 5 = .ok (.iconst 0, 1) := by decide +kernel
theorem dX4_letGo_6 : decode cX4_letGo 6 = .ok (.istore_n 2, 1) := by decide +kernel
theorem dX4_letGo_7 : decode cX4_letGo 7 = .ok (.iload_n 2, 1) := by decide +kernel
theorem dX4_letGo_8 : decode cX4_letGo 8 = .ok (.iconst 3, 1) := by decide +kernel
theorem dX4_letGo_9 : decode cX4_letGo 9 = .ok (.if_icmp .ge 16, 3) := by decide +kernel
theorem dX4_letGo_12 : decode cX4_letGo 12 = .ok (.aload_n 0, 1) := by decide +kernel
theorem dX4_letGo_13 : decode cX4_letGo 13 = .ok (.getfield 72, 3) := by decide +kernel
theorem dX4_letGo_16 : decode cX4_letGo 16 = .ok (.iload_n 2, 1) := by decide +kernel
theorem dX4_letGo_17 : decode cX4_letGo 17 = .ok (.iconst 0, 1) := by decide +kernel
theorem dX4_letGo_18 : decode cX4_letGo 18 = .ok (.iastore, 1) := by decide +kernel
theorem dX4_letGo_19 : decode cX4_letGo 19 = .ok (.iinc 2 1, 3) := by decide +kernel
theorem dX4_letGo_22 : decode cX4_letGo 22 = .ok (.goto (-15), 3) := by decide +kernel
theorem dX4_letGo_25 : decode cX4_letGo 25 = .ok (.iconst 0, 1) := by decide +kernel
theorem dX4_letGo_26 : decode cX4_letGo 26 = .ok (.istore_n 2, 1) := by decide +kernel
theorem dX4_letGo_27 : decode cX4_letGo 27 = .ok (.iload_n 2, 1) := by decide +kernel
theorem dX4_letGo_28 : decode cX4_letGo 28 = .ok (.aload_n 0, 1) := by decide +kernel
theorem dX4_letGo_29 : decode cX4_letGo 29 = .ok (.getfield 18, 3) := by decide +kernel
theorem dX4_letGo_32 : decode cX4_letGo 32 = .ok (.if_icmp .ge 99, 3) := by decide +kernel
theorem dX4_letGo_35 : decode cX4_letGo 35 = .ok (.aload_n 0, 1) := by decide +kernel
theorem dX4_letGo_36 : decode cX4_letGo 36 = .ok (.iload_n 2, 1) := by decide +kernel
theorem dX4_letGo_37 : decode cX4_letGo 37 = .ok (.invokevirtual 115, 3) := by decide +kernel
theorem dX4_letGo_40 : decode cX4_letGo 40 = .ok (.istore_n 3, 1) := by decide +kernel
theorem dX4_letGo_41 : decode cX4_letGo 41 = .ok (.iconst 0, 1) := by decide +kernel
theorem dX4_letGo_42 : decode cX4_letGo 42 = .ok (.istore 4, 2) := by decide +kernel
theorem dX4_letGo_44 : decode cX4_letGo 44 = .ok (.iload 4, 2) := by decide +kernel
theorem dX4_letGo_46 : decode cX4_letGo 46 = .ok (.iconst 3, 1) := by decide +kernel
theorem dX4_letGo_47 : decode cX4_letGo 47 = .ok (.if_icmp .ge 78, 3) := by decide +kernel
theorem dX4_letGo_50 : decode cX4_letGo 50 = .ok (.iconst 3, 1) := by decide +kernel
theorem dX4_letGo_51 : decode cX4_letGo 51 = .ok (.iload_n 2, 1) := by decide +kernel
theorem dX4_letGo_52 : decode cX4_letGo 52 = .ok (.imul, 1) := by decide +kernel
theorem dX4_letGo_53 : decode cX4_letGo 53 = .ok (.iload 4, 2) := by decide +kernel
theorem dX4_letGo_55 : decode cX4_letGo 55 = .ok (.iadd, 1) := by decide +kernel
theorem dX4_letGo_56 : decode cX4_letGo 56 = .ok (.istore 5, 2) := by decide +kernel
theorem dX4_letGo_58 : decode cX4_letGo 58 = .ok (.aload_n 0, 1) := by decide +kernel
theorem dX4_letGo_59 : decode cX4_letGo 59 = .ok (.getfield 31, 3) := by decide +kernel
theorem dX4_letGo_62 : decode cX4_letGo 62 = .ok (.iload 5, 2) := by decide +kernel
theorem dX4_letGo_64 : decode cX4_letGo 64 = .ok (.iaload, 1) := by decide +kernel
theorem dX4_letGo_65 : decode cX4_letGo 65 = .ok (.aload_n 0, 1) := by decide +kernel
theorem dX4_letGo_66 : decode cX4_letGo 66 = .ok (.iload 4, 2) := by decide +kernel
theorem dX4_letGo_68 : decode cX4_letGo 68 = .ok (.aload_n 0, 1) := by decide +kernel
theorem dX4_letGo_69 : decode cX4_letGo 69 = .ok (.getfield 69, 3) := by decide +kernel
theorem dX4_letGo_72 : decode cX4_letGo 72 = .ok (.iload_n 2, 1) := by decide +kernel
theorem dX4_letGo_73 : decode cX4_letGo 73 = .ok (.iaload, 1) := by decide +kernel
theorem dX4_letGo_74 : decode cX4_letGo 74 = .ok (.iload_n 3, 1) := by decide +kernel
theorem dX4_letGo_75 : decode cX4_letGo 75 = .ok (.invokevirtual 178, 3) := by decide +kernel
theorem dX4_letGo_78 : decode cX4_letGo 78 = .ok (.imul, 1) := by decide +kernel
theorem dX4_letGo_79 : decode cX4_letGo 79 = .ok (.bipush 100, 2) := by decide +kernel
theorem dX4_letGo_81 : decode cX4_letGo 81 = .ok (.idiv, 1) := by decide +kernel
theorem dX4_letGo_82 : decode cX4_letGo 82 = .ok (.istore 6, 2) := by decide +kernel
theorem dX4_letGo_84 : decode cX4_letGo 84 = .ok (.aload_n 0, 1) := by decide +kernel
theorem dX4_letGo_85 : decode cX4_letGo 85 = .ok (.getfield 31, 3) := by decide +kernel
theorem dX4_letGo_88 : decode cX4_letGo 88 = .ok (.iload 5, 2) := by decide +kernel
theorem dX4_letGo_90 : decode cX4_letGo 90 = .ok (.dup2, 1) := by decide +kernel
theorem dX4_letGo_91 : decode cX4_letGo 91 = .ok (.iaload, 1) := by decide +kernel
theorem dX4_letGo_92 : decode cX4_letGo 92 = .ok (.iload 6, 2) := by decide +kernel
theorem dX4_letGo_94 : decode cX4_letGo 94 = .ok (.isub, 1) := by decide +kernel
theorem dX4_letGo_95 : decode cX4_letGo 95 = .ok (.iastore, 1) := by decide +kernel
theorem dX4_letGo_96 : decode cX4_letGo 96 = .ok (.aload_n 0, 1) := by decide +kernel
theorem dX4_letGo_97 : decode cX4_letGo 97 = .ok (.getfield 72, 3) := by decide +kernel
theorem dX4_letGo_100 : decode cX4_letGo 100 = .ok (.iload 4, 2) := by decide +kernel
theorem dX4_letGo_102 : decode cX4_letGo 102 = .ok (.dup2, 1) := by decide +kernel
theorem dX4_letGo_103 : decode cX4_letGo 103 = .ok (.iaload, 1) := by decide +kernel
theorem dX4_letGo_104 : decode cX4_letGo 104 = .ok (.iload_n 2, 1) := by decide +kernel
theorem dX4_letGo_105 : decode cX4_letGo 105 = .ok (.iload_n 1, 1) := by decide +kernel
theorem dX4_letGo_106 : decode cX4_letGo 106 = .ok (.if_icmp .ne 7, 3) := by decide +kernel
theorem dX4_letGo_109 : decode cX4_letGo 109 = .ok (.iconst 0, 1) := by decide +kernel
theorem dX4_letGo_110 : decode cX4_letGo 110 = .ok (.goto 7, 3) := by decide +kernel
theorem dX4_letGo_113 : decode cX4_letGo 113 = .ok (.iload 6, 2) := by decide +kernel
theorem dX4_letGo_115 : decode cX4_letGo 115 = .ok (.iconst 2, 1) := by decide +kernel
theorem dX4_letGo_116 : decode cX4_letGo 116 = .ok (.idiv, 1) := by decide +kernel
theorem dX4_letGo_117 : decode cX4_letGo 117 = .ok (.iadd, 1) := by decide +kernel
theorem dX4_letGo_118 : decode cX4_letGo 118 = .ok (.iastore, 1) := by decide +kernel
theorem dX4_letGo_119 : decode cX4_letGo 119 = .ok (.iinc 4 1, 3) := by decide +kernel
theorem dX4_letGo_122 : decode cX4_letGo 122 = .ok (.goto (-78), 3) := by decide +kernel
theorem dX4_letGo_125 : decode cX4_letGo 125 = .ok (.iinc 2 1, 3) := by decide +kernel
theorem dX4_letGo_128 : decode cX4_letGo 128 = .ok (.goto (-101), 3) := by decide +kernel
theorem dX4_letGo_131 : decode cX4_letGo 131 = .ok (.iconst 0, 1) := by decide +kernel
theorem dX4_letGo_132 : decode cX4_letGo 132 = .ok (.istore_n 2, 1) := by decide +kernel
theorem dX4_letGo_133 : decode cX4_letGo 133 = .ok (.iload_n 2, 1) := by decide +kernel
theorem dX4_letGo_134 : decode cX4_letGo 134 = .ok (.iconst 3, 1) := by decide +kernel
theorem dX4_letGo_135 : decode cX4_letGo 135 = .ok (.if_icmp .ge 46, 3) := by decide +kernel
theorem dX4_letGo_138 : decode cX4_letGo 138 = .ok (.aload_n 0, 1) := by decide +kernel
theorem dX4_letGo_139 : decode cX4_letGo 139 = .ok (.getfield 18, 3) := by decide +kernel
theorem dX4_letGo_142 : decode cX4_letGo 142 = .ok (.ifCond .le 39, 3) := by decide +kernel
theorem dX4_letGo_145 : decode cX4_letGo 145 = .ok (.aload_n 0, 1) := by decide +kernel
theorem dX4_letGo_146 : decode cX4_letGo 146 = .ok (.getfield 31, 3) := by decide +kernel
theorem dX4_letGo_149 : decode cX4_letGo 149 = .ok (.iconst 3, 1) := by decide +kernel
theorem dX4_letGo_150 : decode cX4_letGo 150 = .ok (.iload_n 1, 1) := by decide +kernel
theorem dX4_letGo_151 : decode cX4_letGo 151 = .ok (.imul, 1) := by decide +kernel
theorem dX4_letGo_152 : decode cX4_letGo 152 = .ok (.iload_n 2, 1) := by decide +kernel
theorem dX4_letGo_153 : decode cX4_letGo 153 = .ok (.iadd, 1) := by decide +kernel
theorem dX4_letGo_154 : decode cX4_letGo 154 = .ok (.aload_n 0, 1) := by decide +kernel
theorem dX4_letGo_155 : decode cX4_letGo 155 = .ok (.getfield 31, 3) := by decide +kernel
theorem dX4_letGo_158 : decode cX4_letGo 158 = .ok (.iconst 3, 1) := by decide +kernel
theorem dX4_letGo_159 : decode cX4_letGo 159 = .ok (.iload_n 1, 1) := by decide +kernel
theorem dX4_letGo_160 : decode cX4_letGo 160 = .ok (.imul, 1) := by decide +kernel
theorem dX4_letGo_161 : decode cX4_letGo 161 = .ok (.iload_n 2, 1) := by decide +kernel
theorem dX4_letGo_162 : decode cX4_letGo 162 = .ok (.iadd, 1) := by decide +kernel
theorem dX4_letGo_163 : decode cX4_letGo 163 = .ok (.iaload, 1) := by decide +kernel
theorem dX4_letGo_164 : decode cX4_letGo 164 = .ok (.aload_n 0, 1) := by decide +kernel
theorem dX4_letGo_165 : decode cX4_letGo 165 = .ok (.getfield 72, 3) := by decide +kernel
theorem dX4_letGo_168 : decode cX4_letGo 168 = .ok (.iload_n 2, 1) := by decide +kernel
theorem dX4_letGo_169 : decode cX4_letGo 169 = .ok (.iaload, 1) := by decide +kernel
theorem dX4_letGo_170 : decode cX4_letGo 170 = .ok (.iadd, 1) := by decide +kernel
theorem dX4_letGo_171 : decode cX4_letGo 171 = .ok (.invokestatic 182, 3) := by decide +kernel
theorem dX4_letGo_174 : decode cX4_letGo 174 = .ok (.iastore, 1) := by decide +kernel
theorem dX4_letGo_175 : decode cX4_letGo 175 = .ok (.iinc 2 1, 3) := by decide +kernel
theorem dX4_letGo_178 : decode cX4_letGo 178 = .ok (.goto (-45), 3) := by decide +kernel
theorem dX4_letGo_181 : decode cX4_letGo 181 = .ok (.return_, 1) := by decide +kernel
theorem dX4_letCome_0 : decode cX4_letCome 0 = .ok (.iconst 0, 1) := by decide +kernel
theorem dX4_letCome_1 : decode cX4_letCome 1 = .ok (.istore_n 1, 1) := by decide +kernel
theorem dX4_letCome_2 : decode cX4_letCome 2 = .ok (.iload_n 1, 1) := by decide +kernel
theorem dX4_letCome_3 : decode cX4_letCome 3 = .ok (.aload_n 0, 1) := by decide +kernel
theorem dX4_letCome_4 : decode cX4_letCome 4 = .ok (.getfield 18, 3) := by decide +kernel
theorem dX4_letCome_7 : decode cX4_letCome 7 = .ok (.if_icmp .ge 57, 3) := by decide +kernel
theorem dX4_letCome_10 : decode cX4_letCome 10 = .ok (.aload_n 0, 1) := by decide +kernel
theorem dX4_letCome_11 : decode cX4_letCome 11 = .ok (.iload_n 1, 1) := by decide +kernel
theorem dX4_letCome_12 : decode cX4_letCome 12 = .ok (.invokevirtual 115, 3) := by decide +kernel
theorem dX4_letCome_15 : decode cX4_letCome 15 = .ok (.istore_n 2, 1) := by decide +kernel
theorem dX4_letCome_16 : decode cX4_letCome 16 = .ok (.iload_n 2, 1) := by decide +kernel
theorem dX4_letCome_17 : decode cX4_letCome 17 = .ok (.aload_n 0, 1) := by decide +kernel
theorem dX4_letCome_18 : decode cX4_letCome 18 = .ok (.aload_n 0, 1) := by decide +kernel
theorem dX4_letCome_19 : decode cX4_letCome 19 = .ok (.getfield 69, 3) := by decide +kernel
theorem dX4_letCome_22 : decode cX4_letCome 22 = .ok (.iload_n 1, 1) := by decide +kernel
theorem dX4_letCome_23 : decode cX4_letCome 23 = .ok (.iaload, 1) := by decide +kernel
theorem dX4_letCome_24 : decode cX4_letCome 24 = .ok (.iload_n 2, 1) := by decide +kernel
theorem dX4_letCome_25 : decode cX4_letCome 25 = .ok (.invokevirtual 185, 3) := by decide +kernel
theorem dX4_letCome_28 : decode cX4_letCome 28 = .ok (.imul, 1) := by decide +kernel
theorem dX4_letCome_29 : decode cX4_letCome 29 = .ok (.bipush 100, 2) := by decide +kernel
theorem dX4_letCome_31 : decode cX4_letCome 31 = .ok (.idiv, 1) := by decide +kernel
theorem dX4_letCome_32 : decode cX4_letCome 32 = .ok (.istore_n 3, 1) := by decide +kernel
theorem dX4_letCome_33 : decode cX4_letCome 33 = .ok (.aload_n 0, 1) := by decide +kernel
theorem dX4_letCome_34 : decode cX4_letCome 34 = .ok (.getfield 31, 3) := by decide +kernel
theorem dX4_letCome_37 : decode cX4_letCome 37 = .ok (.iconst 3, 1) := by decide +kernel
theorem dX4_letCome_38 : decode cX4_letCome 38 = .ok (.iload_n 1, 1) := by decide +kernel
theorem dX4_letCome_39 : decode cX4_letCome 39 = .ok (.imul, 1) := by decide +kernel
theorem dX4_letCome_40 : decode cX4_letCome 40 = .ok (.iconst 1, 1) := by decide +kernel
theorem dX4_letCome_41 : decode cX4_letCome 41 = .ok (.iadd, 1) := by decide +kernel
theorem dX4_letCome_42 : decode cX4_letCome 42 = .ok (.aload_n 0, 1) := by decide +kernel
theorem dX4_letCome_43 : decode cX4_letCome 43 = .ok (.getfield 31, 3) := by decide +kernel
theorem dX4_letCome_46 : decode cX4_letCome 46 = .ok (.iconst 3, 1) := by decide +kernel
theorem dX4_letCome_47 : decode cX4_letCome 47 = .ok (.iload_n 1, 1) := by decide +kernel
theorem dX4_letCome_48 : decode cX4_letCome 48 = .ok (.imul, 1) := by decide +kernel
theorem dX4_letCome_49 : decode cX4_letCome 49 = .ok (.iconst 1, 1) := by decide +kernel
theorem dX4_letCome_50 : decode cX4_letCome 50 = .ok (.iadd, 1) := by decide +kernel
theorem dX4_letCome_51 : decode cX4_letCome 51 = .ok (.iaload, 1) := by decide +kernel
theorem dX4_letCome_52 : decode cX4_letCome 52 = .ok (.iload_n 3, 1) := by decide +kernel
theorem dX4_letCome_53 : decode cX4_letCome 53 = .ok (.iadd, 1) := by decide +kernel
theorem dX4_letCome_54 : decode cX4_letCome 54 = .ok (.invokestatic 182, 3) := by decide +kernel
theorem dX4_letCome_57 : decode cX4_letCome 57 = .ok (.iastore, 1) := by decide +kernel
theorem dX4_letCome_58 : decode cX4_letCome 58 = .ok (.iinc 1 1, 3) := by decide +kernel
theorem dX4_letCome_61 : decode cX4_letCome 61 = .ok (.goto (-59), 3) := by decide +kernel
theorem dX4_letCome_64 : decode cX4_letCome 64 = .ok (.return_, 1) := by decide +kernel
theorem dX4_letAge_0 : decode cX4_letAge 0 = .ok (.iconst 0, 1) := by decide +kernel
theorem dX4_letAge_1 : decode cX4_letAge 1 = .ok (.istore_n 1, 1) := by decide +kernel
theorem dX4_letAge_2 : decode cX4_letAge 2 = .ok (.iload_n 1, 1) := by decide +kernel
theorem dX4_letAge_3 : decode cX4_letAge 3 = .ok (.aload_n 0, 1) := by decide +kernel
theorem dX4_letAge_4 : decode cX4_letAge 4 = .ok (.getfield 18, 3) := by decide +kernel
theorem dX4_letAge_7 : decode cX4_letAge 7 = .ok (.if_icmp .ge 153, 3) := by decide +kernel
theorem dX4_letAge_10 : decode cX4_letAge 10 = .ok (.iconst 3, 1) := by decide +kernel
theorem dX4_letAge_11 : decode cX4_letAge 11 = .ok (.iload_n 1, 1) := by decide +kernel
theorem dX4_letAge_12 : decode cX4_letAge 12 = .ok (.imul, 1) := by decide +kernel
theorem dX4_letAge_13 : decode cX4_letAge 13 = .ok (.istore_n 2, 1) := by decide +kernel
theorem dX4_letAge_14 : decode cX4_letAge 14 = .ok (.aload_n 0, 1) := by decide +kernel
theorem dX4_letAge_15 : decode cX4_letAge 15 = .ok (.getfield 31, 3) := by decide +kernel
theorem dX4_letAge_18 : decode cX4_letAge 18 = .ok (.iload_n 2, 1) := by decide +kernel
theorem dX4_letAge_19 : decode cX4_letAge 19 = .ok (.iconst 0, 1) := by decide +kernel
theorem dX4_letAge_20 : decode cX4_letAge 20 = .ok (.iadd, 1) := by decide +kernel
theorem dX4_letAge_21 : decode cX4_letAge 21 = .ok (.iaload, 1) := by decide +kernel
theorem dX4_letAge_22 : decode cX4_letAge 22 = .ok (.istore_n 3, 1) := by decide +kernel
theorem dX4_letAge_23 : decode cX4_letAge 23 = .ok (.aload_n 0, 1) := by decide +kernel
theorem dX4_letAge_24 : decode cX4_letAge 24 = .ok (.getfield 31, 3) := by decide +kernel
theorem dX4_letAge_27 : decode cX4_letAge 27 = .ok (.iload_n 2, 1) := by decide +kernel
theorem dX4_letAge_28 : decode cX4_letAge 28 = .ok (.iconst 1, 1) := by decide +kernel
theorem dX4_letAge_29 : decode cX4_letAge 29 = .ok (.iadd, 1) := by decide +kernel
theorem dX4_letAge_30 : decode cX4_letAge 30 = .ok (.iaload, 1) := by decide +kernel
theorem dX4_letAge_31 : decode cX4_letAge 31 = .ok (.istore 4, 2) := by decide +kernel
theorem dX4_letAge_33 : decode cX4_letAge 33 = .ok (.aload_n 0, 1) := by decide +kernel
theorem dX4_letAge_34 : decode cX4_letAge 34 = .ok (.getfield 31, 3) := by decide +kernel
theorem dX4_letAge_37 : decode cX4_letAge 37 = .ok (.iload_n 2, 1) := by decide +kernel
theorem dX4_letAge_38 : decode cX4_letAge 38 = .ok (.iconst 2, 1) := by decide +kernel
theorem dX4_letAge_39 : decode cX4_letAge 39 = .ok (.iadd, 1) := by decide +kernel
theorem dX4_letAge_40 : decode cX4_letAge 40 = .ok (.iaload, 1) := by decide +kernel
theorem dX4_letAge_41 : decode cX4_letAge 41 = .ok (.istore 5, 2) := by decide +kernel
theorem dX4_letAge_43 : decode cX4_letAge 43 = .ok (.iload 4, 2) := by decide +kernel
theorem dX4_letAge_45 : decode cX4_letAge 45 = .ok (.aload_n 0, 1) := by decide +kernel
theorem dX4_letAge_46 : decode cX4_letAge 46 = .ok (.getfield 60, 3) := by decide +kernel
theorem dX4_letAge_49 : decode cX4_letAge 49 = .ok (.iconst 0, 1) := by decide +kernel
theorem dX4_letAge_50 : decode cX4_letAge 50 = .ok (.iaload, 1) := by decide +kernel
theorem dX4_letAge_51 : decode cX4_letAge 51 = .ok (.imul, 1) := by decide +kernel
theorem dX4_letAge_52 : decode cX4_letAge 52 = .ok (.bipush 100, 2) := by decide +kernel
theorem dX4_letAge_54 : decode cX4_letAge 54 = .ok (.idiv, 1) := by decide +kernel
theorem dX4_letAge_55 : decode cX4_letAge 55 = .ok (.istore 6, 2) := by decide +kernel
theorem dX4_letAge_57 : decode cX4_letAge 57 = .ok (.iload_n 3, 1) := by decide +kernel
theorem dX4_letAge_58 : decode cX4_letAge 58 = .ok (.aload_n 0, 1) := by decide +kernel
theorem dX4_letAge_59 : decode cX4_letAge 59 = .ok (.getfield 60, 3) := by decide +kernel
theorem dX4_letAge_62 : decode cX4_letAge 62 = .ok (.iconst 1, 1) := by decide +kernel
theorem dX4_letAge_63 : decode cX4_letAge 63 = .ok (.iaload, 1) := by decide +kernel
theorem dX4_letAge_64 : decode cX4_letAge 64 = .ok (.imul, 1) := by decide +kernel
theorem dX4_letAge_65 : decode cX4_letAge 65 = .ok (.bipush 100, 2) := by decide +kernel
theorem dX4_letAge_67 : decode cX4_letAge 67 = .ok (.idiv, 1) := by decide +kernel
theorem dX4_letAge_68 : decode cX4_letAge 68 = .ok (.istore 7, 2) := by decide +kernel
theorem dX4_letAge_70 : decode cX4_letAge 70 = .ok (.iload 4, 2) := by decide +kernel
theorem dX4_letAge_72 : decode cX4_letAge 72 = .ok (.aload_n 0, 1) := by decide +kernel
theorem dX4_letAge_73 : decode cX4_letAge 73 = .ok (.getfield 60, 3) := by decide +kernel
theorem dX4_letAge_76 : decode cX4_letAge 76 = .ok (.iconst 2, 1) := by decide +kernel
theorem dX4_letAge_77 : decode cX4_letAge 77 = .ok (.iaload, 1) := by decide +kernel
theorem dX4_letAge_78 : decode cX4_letAge 78 = .ok (.imul, 1) := by decide +kernel
theorem dX4_letAge_79 : decode cX4_letAge 79 = .ok (.bipush 100, 2) := by decide +kernel
theorem dX4_letAge_81 : decode cX4_letAge 81 = .ok (.idiv, 1) := by decide +kernel
theorem dX4_letAge_82 : decode cX4_letAge 82 = .ok (.istore 8, 2) := by decide +kernel
theorem dX4_letAge_84 : decode cX4_letAge 84 = .ok (.iload 5, 2) := by decide +kernel
theorem dX4_letAge_86 : decode cX4_letAge 86 = .ok (.aload_n 0, 1) := by decide +kernel
theorem dX4_letAge_87 : decode cX4_letAge 87 = .ok (.getfield 60, 3) := by decide +kernel
theorem dX4_letAge_90 : decode cX4_letAge 90 = .ok (.iconst 3, 1) := by decide +kernel
theorem dX4_letAge_91 : decode cX4_letAge 91 = .ok (.iaload, 1) := by decide +kernel
theorem dX4_letAge_92 : decode cX4_letAge 92 = .ok (.imul, 1) := by decide +kernel
theorem dX4_letAge_93 : decode cX4_letAge 93 = .ok (.bipush 100, 2) := by decide +kernel
theorem dX4_letAge_95 : decode cX4_letAge 95 = .ok (.idiv, 1) := by decide +kernel
theorem dX4_letAge_96 : decode cX4_letAge 96 = .ok (.istore 9, 2) := by decide +kernel
theorem dX4_letAge_98 : decode cX4_letAge 98 = .ok (.aload_n 0, 1) := by decide +kernel
theorem dX4_letAge_99 : decode cX4_letAge 99 = .ok (.getfield 31, 3) := by decide +kernel
theorem dX4_letAge_102 : decode cX4_letAge 102 = .ok (.iload_n 2, 1) := by decide +kernel
theorem dX4_letAge_103 : decode cX4_letAge 103 = .ok (.iconst 0, 1) := by decide +kernel
theorem dX4_letAge_104 : decode cX4_letAge 104 = .ok (.iadd, 1) := by decide +kernel
theorem dX4_letAge_105 : decode cX4_letAge 105 = .ok (.iload_n 3, 1) := by decide +kernel
theorem dX4_letAge_106 : decode cX4_letAge 106 = .ok (.iload 6, 2) := by decide +kernel
theorem dX4_letAge_108 : decode cX4_letAge 108 = .ok (.iadd, 1) := by decide +kernel
theorem dX4_letAge_109 : decode cX4_letAge 109 = .ok (.iload 7, 2) := by decide +kernel
theorem dX4_letAge_111 : decode cX4_letAge 111 = .ok (.isub, 1) := by decide +kernel
theorem dX4_letAge_112 : decode cX4_letAge 112 = .ok (.invokestatic 182, 3) := by decide +kernel
theorem dX4_letAge_115 : decode cX4_letAge 115 = .ok (.iastore, 1) := by decide +kernel
theorem dX4_letAge_116 : decode cX4_letAge 116 = .ok (.aload_n 0, 1) := by decide +kernel
theorem dX4_letAge_117 : decode cX4_letAge 117 = .ok (.getfield 31, 3) := by decide +kernel
theorem dX4_letAge_120 : decode cX4_letAge 120 = .ok (.iload_n 2, 1) := by decide +kernel
theorem dX4_letAge_121 : decode cX4_letAge 121 = .ok (.iconst 1, 1) := by decide +kernel
theorem dX4_letAge_122 : decode cX4_letAge 122 = .ok (.iadd, 1) := by decide +kernel
theorem dX4_letAge_123 : decode cX4_letAge 123 = .ok (.iload 4, 2) := by decide +kernel
theorem dX4_letAge_125 : decode cX4_letAge 125 = .ok (.iload 7, 2) := by decide +kernel
theorem dX4_letAge_127 : decode cX4_letAge 127 = .ok (.iadd, 1) := by decide +kernel
theorem dX4_letAge_128 : decode cX4_letAge 128 = .ok (.iload 8, 2) := by decide +kernel
theorem dX4_letAge_130 : decode cX4_letAge 130 = .ok (.isub, 1) := by decide +kernel
theorem dX4_letAge_131 : decode cX4_letAge 131 = .ok (.invokestatic 182, 3) := by decide +kernel
theorem dX4_letAge_134 : decode cX4_letAge 134 = .ok (.iastore, 1) := by decide +kernel
theorem dX4_letAge_135 : decode cX4_letAge 135 = .ok (.aload_n 0, 1) := by decide +kernel
theorem dX4_letAge_136 : decode cX4_letAge 136 = .ok (.getfield 31, 3) := by decide +kernel
theorem dX4_letAge_139 : decode cX4_letAge 139 = .ok (.iload_n 2, 1) := by decide +kernel
theorem dX4_letAge_140 : decode cX4_letAge 140 = .ok (.iconst 2, 1) := by decide +kernel
theorem dX4_letAge_141 : decode cX4_letAge 141 = .ok (.iadd, 1) := by decide +kernel
theorem dX4_letAge_142 : decode cX4_letAge 142 = .ok (.iload 5, 2) := by decide +kernel
theorem dX4_letAge_144 : decode cX4_letAge 144 = .ok (.iload 8, 2) := by decide +kernel
theorem dX4_letAge_146 : decode cX4_letAge 146 = .ok (.iadd, 1) := by decide +kernel
theorem dX4_letAge_147 : decode cX4_letAge 147 = .ok (.iload 9, 2) := by decide +kernel
theorem dX4_letAge_149 : decode cX4_letAge 149 = .ok (.isub, 1) := by decide +kernel
theorem dX4_letAge_150 : decode cX4_letAge 150 = .ok (.invokestatic 182, 3) := by decide +kernel
theorem dX4_letAge_153 : decode cX4_letAge 153 = .ok (.iastore, 1) := by decide +kernel
theorem dX4_letAge_154 : decode cX4_letAge 154 = .ok (.iinc 1 1, 3) := by decide +kernel
theorem dX4_letAge_157 : decode cX4_letAge 157 = .ok (.goto (-155), 3) := by decide +kernel
theorem dX4_letAge_160 : decode cX4_letAge 160 = .ok (.return_, 1) := by decide +kernel
theorem dX4_held_0 : decode cX4_held 0 = .ok (.ldc 188, 2) := by decide +kernel
theorem dX4_held_2 : decode cX4_held 2 = .ok (.iload_n 0, 1) := by decide +kernel
theorem dX4_held_3 : decode cX4_held 3 = .ok (.invokestatic 137, 3) := by decide +kernel
theorem dX4_held_6 : decode cX4_held 6 = .ok (.ireturn, 1) := by decide +kernel
theorem dX5_init_0 : decode cX5_init 0 = .ok (.aload_n 0, 1) := by decide +kernel
theorem dX5_init_1 : decode cX5_init 1 = .ok (.invokespecial 1, 3) := by decide +kernel
theorem dX5_init_4 : decode cX5_init 4 = .ok (.aload_n 0, 1) := by decide +kernel
theorem dX5_init_5 : decode cX5_init 5 = .ok (.iconst 0, 1) := by decide +kernel
theorem dX5_init_6 : decode cX5_init 6 = .ok (.putfield 7, 3) := by decide +kernel
theorem dX5_init_9 : decode cX5_init 9 = .ok (.aload_n 0, 1) := by decide +kernel
theorem dX5_init_10 : decode cX5_init 10 = .ok (.iconst 0, 1) := by decide +kernel
theorem dX5_init_11 : decode cX5_init 11 = .ok (.putfield 13, 3) := by decide +kernel
theorem dX5_init_14 : decode cX5_init 14 = .ok (.aload_n 0, 1) := by decide +kernel
theorem dX5_init_15 : decode cX5_init 15 = .ok (.iconst 0, 1) := by decide +kernel
theorem dX5_init_16 : decode cX5_init 16 = .ok (.iload_n 1, 1) := by decide +kernel
theorem dX5_init_17 : decode cX5_init 17 = .ok (.invokestatic 16, 3) := by decide +kernel
theorem dX5_init_20 : decode cX5_init 20 = .ok (.newarray .int, 2) := by decide +kernel
theorem dX5_init_22 : decode cX5_init 22 = .ok (.putfield 22, 3) := by decide +kernel
theorem dX5_init_25 : decode cX5_init 25 = .ok (.return_, 1) := by decide +kernel
theorem dX5_add_0 : decode cX5_add 0 = .ok (.aload_n 0, 1) := by decide +kernel
theorem dX5_add_1 : decode cX5_add 1 = .ok (.getfield 7, 3) := by decide +kernel
theorem dX5_add_4 : decode cX5_add 4 = .ok (.aload_n 0, 1) := by decide +kernel
theorem dX5_add_5 : decode cX5_add 5 = .ok (.getfield 22, 3) := by decide +kernel
theorem dX5_add_8 : decode cX5_add 8 = .ok (.arraylength, 1) := by decide +kernel
theorem dX5_add_9 : decode cX5_add 9 = .ok (.if_icmp .ge 23, 3) := by decide +kernel
theorem dX5_add_12 : decode cX5_add 12 = .ok (.aload_n 0, 1) := by decide +kernel
theorem dX5_add_13 : decode cX5_add 13 = .ok (.getfield 22, 3) := by decide +kernel
theorem dX5_add_16 : decode cX5_add 16 = .ok (.aload_n 0, 1) := by decide +kernel
theorem dX5_add_17 : decode cX5_add 17 = .ok (.getfield 7, 3) := by decide +kernel
theorem dX5_add_20 : decode cX5_add 20 = .ok (.iload_n 1, 1) := by decide +kernel
theorem dX5_add_21 : decode cX5_add 21 = .ok (.iastore, 1) := by decide +kernel
theorem dX5_add_22 : decode cX5_add 22 = .ok (.aload_n 0, 1) := by decide +kernel
theorem dX5_add_23 : decode cX5_add 23 = .ok (.dup, 1) := by decide +kernel
theorem dX5_add_24 : decode cX5_add 24 = .ok (.getfield 7, 3) := by decide +kernel
theorem dX5_add_27 : decode cX5_add 27 = .ok (.iconst 1, 1) := by decide +kernel
theorem dX5_add_28 : decode cX5_add 28 = .ok (.iadd, 1) := by decide +kernel
theorem dX5_add_29 : decode cX5_add 29 = .ok (.putfield 7, 3) := by decide +kernel
theorem dX5_add_32 : decode cX5_add 32 = .ok (.return_, 1) := by decide +kernel
theorem dX5_has_0 : decode cX5_has 0 = .ok (.iload_n 1, 1) := by decide +kernel
theorem dX5_has_1 : decode cX5_has 1 = .ok (.ifCond .lt 15, 3) := by decide +kernel
theorem dX5_has_4 : decode cX5_has 4 = .ok (.iload_n 1, 1) := by decide +kernel
theorem dX5_has_5 : decode cX5_has 5 = .ok (.aload_n 0, 1) := by decide +kernel
theorem dX5_has_6 : decode cX5_has 6 = .ok (.getfield 7, 3) := by decide +kernel
theorem dX5_has_9 : decode cX5_has 9 = .ok (.if_icmp .ge 7, 3) := by decide +kernel
theorem dX5_has_12 : decode cX5_has 12 = .ok (.iconst 1, 1) := by decide +kernel
theorem dX5_has_13 : decode cX5_has 13 = .ok (.goto 4, 3) := by decide +kernel
theorem dX5_has_16 : decode cX5_has 16 = .ok (.iconst 0, 1) := by decide +kernel
theorem dX5_has_17 : decode cX5_has 17 = .ok (.ireturn, 1) := by decide +kernel
theorem dX5_hasRun_0 : decode cX5_hasRun 0 = .ok (.iload_n 1, 1) := by decide +kernel
theorem dX5_hasRun_1 : decode cX5_hasRun 1 = .ok (.ifCond .lt 29, 3) := by decide +kernel
theorem dX5_hasRun_4 : decode cX5_hasRun 4 = .ok (.iload_n 2, 1) := by decide +kernel
theorem dX5_hasRun_5 : decode cX5_hasRun 5 = .ok (.ifCond .lt 25, 3) := by decide +kernel
theorem dX5_hasRun_8 : decode cX5_hasRun 8 = .ok (.iload_n 2, 1) := by decide +kernel
theorem dX5_hasRun_9 : decode cX5_hasRun 9 = .ok (.aload_n 0, 1) := by decide +kernel
theorem dX5_hasRun_10 : decode cX5_hasRun 10 = .ok (.getfield 7, 3) := by decide +kernel
theorem dX5_hasRun_13 : decode cX5_hasRun 13 = .ok (.if_icmp .gt 17, 3) := by decide +kernel
theorem dX5_hasRun_16 : decode cX5_hasRun 16 = .ok (.iload_n 1, 1) := by decide +kernel
theorem dX5_hasRun_17 : decode cX5_hasRun 17 = .ok (.aload_n 0, 1) := by decide +kernel
theorem dX5_hasRun_18 : decode cX5_hasRun 18 = .ok (.getfield 7, 3) := by decide +kernel
theorem dX5_hasRun_21 : decode cX5_hasRun 21 = .ok (.iload_n 2, 1) := by decide +kernel
theorem dX5_hasRun_22 : decode cX5_hasRun 22 = .ok (.isub, 1) := by decide +kernel
theorem dX5_hasRun_23 : decode cX5_hasRun 23 = .ok (.if_icmp .gt 7, 3) := by decide +kernel
theorem dX5_hasRun_26 : decode cX5_hasRun 26 = .ok (.iconst 1, 1) := by decide +kernel
theorem dX5_hasRun_27 : decode cX5_hasRun 27 = .ok (.goto 4, 3) := by decide +kernel
theorem dX5_hasRun_30 : decode cX5_hasRun 30 = .ok (.iconst 0, 1) := by decide +kernel
theorem dX5_hasRun_31 : decode cX5_hasRun 31 = .ok (.ireturn, 1) := by decide +kernel
theorem dX5_shape_0 : decode cX5_shape 0 = .ok (.aload_n 0, 1) := by decide +kernel
theorem dX5_shape_1 : decode cX5_shape 1 = .ok (.iload_n 1, 1) := by decide +kernel
theorem dX5_shape_2 : decode cX5_shape 2 = .ok (.putfield 13, 3) := by decide +kernel
theorem dX5_shape_5 : decode cX5_shape 5 = .ok (.aload_n 0, 1) := by decide +kernel
theorem dX5_shape_6 : decode cX5_shape 6 = .ok (.iconst 0, 1) := by decide +kernel
theorem dX5_shape_7 : decode cX5_shape 7 = .ok (.iload_n 2, 1) := by decide +kernel
theorem dX5_shape_8 : decode cX5_shape 8 = .ok (.aload_n 0, 1) := by decide +kernel
theorem dX5_shape_9 : decode cX5_shape 9 = .ok (.getfield 22, 3) := by decide +kernel
theorem dX5_shape_12 : decode cX5_shape 12 = .ok (.arraylength, 1) := by decide +kernel
theorem dX5_shape_13 : decode cX5_shape 13 = .ok (.invokestatic 26, 3) := by decide +kernel
theorem dX5_shape_16 : decode cX5_shape 16 = .ok (.invokestatic 16, 3) := by decide +kernel
theorem dX5_shape_19 : decode cX5_shape 19 = .ok (.putfield 7, 3) := by decide +kernel
theorem dX5_shape_22 : decode cX5_shape 22 = .ok (.iconst 0, 1) := by decide +kernel
theorem dX5_shape_23 : decode cX5_shape 23 = .ok (.istore_n 3, 1) := by decide +kernel
theorem dX5_shape_24 : decode cX5_shape 24 = .ok (.iload_n 3, 1) := by decide +kernel
theorem dX5_shape_25 : decode cX5_shape 25 = .ok (.aload_n 0, 1) := by decide +kernel
theorem dX5_shape_26 : decode cX5_shape 26 = .ok (.getfield 22, 3) := by decide +kernel
theorem dX5_shape_29 : decode cX5_shape 29 = .ok (.arraylength, 1) := by decide +kernel
theorem dX5_shape_30 : decode cX5_shape 30 = .ok (.if_icmp .ge 16, 3) := by decide +kernel
theorem dX5_shape_33 : decode cX5_shape 33 = .ok (.aload_n 0, 1) := by decide +kernel
theorem dX5_shape_34 : decode cX5_shape 34 = .ok (.getfield 22, 3) := by decide +kernel
theorem dX5_shape_37 : decode cX5_shape 37 = .ok (.iload_n 3, 1) := by decide +kernel
theorem dX5_shape_38 : decode cX5_shape 38 = .ok (.iconst 0, 1) := by decide +kernel
theorem dX5_shape_39 : decode cX5_shape 39 = .ok (.iastore, 1) := by decide +kernel
theorem dX5_shape_40 : decode cX5_shape 40 = .ok (.iinc 3 1, 3) := by decide +kernel
theorem dX5_shape_43 : decode cX5_shape 43 = .ok (.goto (-19), 3) := by decide +kernel
theorem dX5_shape_46 : decode cX5_shape 46 = .ok (.return_, 1) := by decide +kernel
theorem dX5_narrowed_0 : decode cX5_narrowed 0 = .ok (.aload_n 0, 1) := by decide +kernel
theorem dX5_narrowed_1 : decode cX5_narrowed 1 = .ok (.getfield 13, 3) := by decide +kernel
theorem dX5_narrowed_4 : decode cX5_narrowed 4 = .ok (.lookupswitch 34 #[(8, 28), (16, 31)], 28) := by decide +kernel
theorem dX5_narrowed_32 : decode cX5_narrowed 32 = .ok (.iload_n 1, 1) := by decide +kernel
theorem dX5_narrowed_33 : decode cX5_narrowed 33 = .ok (.i2b, 1) := by decide +kernel
theorem dX5_narrowed_34 : decode cX5_narrowed 34 = .ok (.ireturn, 1) := by decide +kernel
theorem dX5_narrowed_35 : decode cX5_narrowed 35 = .ok (.iload_n 1, 1) := by decide +kernel
theorem dX5_narrowed_36 : decode cX5_narrowed 36 = .ok (.i2s, 1) := by decide +kernel
theorem dX5_narrowed_37 : decode cX5_narrowed 37 = .ok (.ireturn, 1) := by decide +kernel
theorem dX5_narrowed_38 : decode cX5_narrowed 38 = .ok (.iload_n 1, 1) := by decide +kernel
theorem dX5_narrowed_39 : decode cX5_narrowed 39 = .ok (.ireturn, 1) := by decide +kernel
theorem dX5_copyFrom_0 : decode cX5_copyFrom 0 = .ok (.aload_n 0, 1) := by decide +kernel
theorem dX5_copyFrom_1 : decode cX5_copyFrom 1 = .ok (.aload_n 1, 1) := by decide +kernel
theorem dX5_copyFrom_2 : decode cX5_copyFrom 2 = .ok (.getfield 7, 3) := by decide +kernel
theorem dX5_copyFrom_5 : decode cX5_copyFrom 5 = .ok (.aload_n 0, 1) := by decide +kernel
theorem dX5_copyFrom_6 : decode cX5_copyFrom 6 = .ok (.getfield 22, 3) := by decide +kernel
theorem dX5_copyFrom_9 : decode cX5_copyFrom 9 = .ok (.arraylength, 1) := by decide +kernel
theorem dX5_copyFrom_10 : decode cX5_copyFrom 10 = .ok (.invokestatic 26, 3) := by decide +kernel
theorem dX5_copyFrom_13 : decode cX5_copyFrom 13 = .ok (.putfield 7, 3) := by decide +kernel
theorem dX5_copyFrom_16 : decode cX5_copyFrom 16 = .ok (.aload_n 1, 1) := by decide +kernel
theorem dX5_copyFrom_17 : decode cX5_copyFrom 17 = .ok (.getfield 22, 3) := by decide +kernel
theorem dX5_copyFrom_20 : decode cX5_copyFrom 20 = .ok (.iconst 0, 1) := by decide +kernel
theorem dX5_copyFrom_21 : decode cX5_copyFrom 21 = .ok (.aload_n 0, 1) := by decide +kernel
theorem dX5_copyFrom_22 : decode cX5_copyFrom 22 = .ok (.getfield 22, 3) := by decide +kernel
theorem dX5_copyFrom_25 : decode cX5_copyFrom 25 = .ok (.iconst 0, 1) := by decide +kernel
theorem dX5_copyFrom_26 : decode cX5_copyFrom 26 = .ok (.aload_n 0, 1) := by decide +kernel
theorem dX5_copyFrom_27 : decode cX5_copyFrom 27 = .ok (.getfield 7, 3) := by decide +kernel
theorem dX5_copyFrom_30 : decode cX5_copyFrom 30 = .ok (.invokestatic 29, 3) := by decide +kernel
theorem dX5_copyFrom_33 : decode cX5_copyFrom 33 = .ok (.return_, 1) := by decide +kernel
theorem dX6_init_0 : decode cX6_init 0 = .ok (.aload_n 0, 1) := by decide +kernel
theorem dX6_init_1 : decode cX6_init 1 = .ok (.invokespecial 3, 3) := by decide +kernel
theorem dX6_init_4 : decode cX6_init 4 = .ok (.aload_n 0, 1) := by decide +kernel
theorem dX6_init_5 : decode cX6_init 5 = .ok (.new 9, 3) := by decide +kernel
theorem dX6_init_8 : decode cX6_init 8 = .ok (.dup, 1) := by decide +kernel
theorem dX6_init_9 : decode cX6_init 9 = .ok (.bipush 50, 2) := by decide +kernel
theorem dX6_init_11 : decode cX6_init 11 = .ok (.invokespecial 11, 3) := by decide +kernel
theorem dX6_init_14 : decode cX6_init 14 = .ok (.putfield 14, 3) := by decide +kernel
theorem dX6_init_17 : decode cX6_init 17 = .ok (.aload_n 0, 1) := by decide +kernel
theorem dX6_init_18 : decode cX6_init 18 = .ok (.bipush 50, 2) := by decide +kernel
theorem dX6_init_20 : decode cX6_init 20 = .ok (.newarray .int, 2) := by decide +kernel
theorem dX6_init_22 : decode cX6_init 22 = .ok (.putfield 20, 3) := by decide +kernel
theorem dX6_init_25 : decode cX6_init 25 = .ok (.aload_n 0, 1) := by decide +kernel
theorem dX6_init_26 : decode cX6_init 26 = .ok (.iconst 0, 1) := by decide +kernel
theorem dX6_init_27 : decode cX6_init 27 = .ok (.putfield 24, 3) := by decide +kernel
theorem dX6_init_30 : decode cX6_init 30 = .ok (.aload_n 0, 1) := by decide +kernel
theorem dX6_init_31 : decode cX6_init 31 = .ok (.iconst (-1), 1) := by decide +kernel
theorem dX6_init_32 : decode cX6_init 32 = .ok (.putfield 28, 3) := by decide +kernel
theorem dX6_init_35 : decode cX6_init 35 = .ok (.aload_n 0, 1) := by decide +kernel
theorem dX6_init_36 : decode cX6_init 36 = .ok (.iload_n 1, 1) := by decide +kernel
theorem dX6_init_37 : decode cX6_init 37 = .ok (.ifCond .ne 8, 3) := by decide +kernel
theorem dX6_init_40 : decode cX6_init 40 = .ok (.ldc 31, 2) := by decide +kernel
theorem dX6_init_42 : decode cX6_init 42 = .ok (.goto 15, 3) := by decide +kernel
theorem dX6_init_45 : decode cX6_init 45 = .ok (.iload_n 1, 1) := by decide +kernel
theorem dX6_init_46 : decode cX6_init 46 = .ok (.iconst 1, 1) := by decide +kernel
theorem dX6_init_47 : decode cX6_init 47 = .ok (.if_icmp .ne 8, 3) := by decide +kernel
theorem dX6_init_50 : decode cX6_init 50 = .ok (.ldc 33, 2) := by decide +kernel
theorem dX6_init_52 : decode cX6_init 52 = .ok (.goto 5, 3) := by decide +kernel
theorem dX6_init_55 : decode cX6_init 55 = .ok (.ldc 35, 2) := by decide +kernel
theorem dX6_init_57 : decode cX6_init 57 = .ok (.putfield 37, 3) := by decide +kernel
theorem dX6_init_60 : decode cX6_init 60 = .ok (.return_, 1) := by decide +kernel
theorem dX6_readFrom_0 : decode cX6_readFrom 0 = .ok (.aload_n 0, 1) := by decide +kernel
theorem dX6_readFrom_1 : decode cX6_readFrom 1 = .ok (.aload_n 1, 1) := by decide +kernel
theorem dX6_readFrom_2 : decode cX6_readFrom 2 = .ok (.iconst 0, 1) := by decide +kernel
theorem dX6_readFrom_3 : decode cX6_readFrom 3 = .ok (.invokevirtual 41, 3) := by decide +kernel
theorem dX6_readFrom_6 : decode cX6_readFrom 6 = .ok (.aload_n 0, 1) := by decide +kernel
theorem dX6_readFrom_7 : decode cX6_readFrom 7 = .ok (.getfield 28, 3) := by decide +kernel
theorem dX6_readFrom_10 : decode cX6_readFrom 10 = .ok (.ifCond .ge 18, 3) := by decide +kernel
theorem dX6_readFrom_13 : decode cX6_readFrom 13 = .ok (.aload_n 0, 1) := by decide +kernel
theorem dX6_readFrom_14 : decode cX6_readFrom 14 = .ok (.getfield 24, 3) := by decide +kernel
theorem dX6_readFrom_17 : decode cX6_readFrom 17 = .ok (.aload_n 1, 1) := by decide +kernel
theorem dX6_readFrom_18 : decode cX6_readFrom 18 = .ok (.getfield 45, 3) := by decide +kernel
theorem dX6_readFrom_21 : decode cX6_readFrom 21 = .ok (.if_icmp .ge 7, 3) := by decide +kernel
theorem dX6_readFrom_24 : decode cX6_readFrom 24 = .ok (.aload_n 0, 1) := by decide +kernel
theorem dX6_readFrom_25 : decode cX6_readFrom 25 = .ok (.invokevirtual 48, 3) := by decide +kernel
theorem dX6_readFrom_28 : decode cX6_readFrom 28 = .ok (.aload_n 0, 1) := by decide +kernel
theorem dX6_readFrom_29 : decode cX6_readFrom 29 = .ok (.getfield 28, 3) := by decide +kernel
theorem dX6_readFrom_32 : decode cX6_readFrom 32 = .ok (.ireturn, 1) := by decide +kernel
theorem dX6_workOut_0 : decode cX6_workOut 0 = .ok (.iconst 0, 1) := by decide +kernel
theorem dX6_workOut_1 : decode cX6_workOut 1 = .ok (.istore 5, 2) := by decide +kernel
theorem dX6_workOut_3 : decode cX6_workOut 3 = .ok (.iconst 0, 1) := by decide +kernel
theorem dX6_workOut_4 : decode cX6_workOut 4 = .ok (.istore 6, 2) := by decide +kernel
theorem dX6_workOut_6 : decode cX6_workOut 6 = .ok (.iload 6, 2) := by decide +kernel
theorem dX6_workOut_8 : decode cX6_workOut 8 = .ok (.aload_n 0, 1) := by decide +kernel
theorem dX6_workOut_9 : decode cX6_workOut 9 = .ok (.getfield 14, 3) := by decide +kernel
theorem dX6_workOut_12 : decode cX6_workOut 12 = .ok (.getfield 45, 3) := by decide +kernel
theorem dX6_workOut_15 : decode cX6_workOut 15 = .ok (.if_icmp .ge 158, 3) := by decide +kernel
theorem dX6_workOut_18 : decode cX6_workOut 18 = .ok (.aload_n 0, 1) := by decide +kernel
theorem dX6_workOut_19 : decode cX6_workOut 19 = .ok (.getfield 14, 3) := by decide +kernel
theorem dX6_workOut_22 : decode cX6_workOut 22 = .ok (.getfield 51, 3) := by decide +kernel
theorem dX6_workOut_25 : decode cX6_workOut 25 = .ok (.iload 6, 2) := by decide +kernel
theorem dX6_workOut_27 : decode cX6_workOut 27 = .ok (.iaload, 1) := by decide +kernel
theorem dX6_workOut_28 : decode cX6_workOut 28 = .ok (.istore 7, 2) := by decide +kernel
theorem dX6_workOut_30 : decode cX6_workOut 30 = .ok (.iload 7, 2) := by decide +kernel
theorem dX6_workOut_32 : decode cX6_workOut 32 = .ok (.ifCond .lt 53, 3) := by decide +kernel
theorem dX6_workOut_35 : decode cX6_workOut 35 = .ok (.iload 5, 2) := by decide +kernel
theorem dX6_workOut_37 : decode cX6_workOut 37 = .ok (.aload_n 0, 1) := by decide +kernel
theorem dX6_workOut_38 : decode cX6_workOut 38 = .ok (.getfield 20, 3) := by decide +kernel
theorem dX6_workOut_41 : decode cX6_workOut 41 = .ok (.arraylength, 1) := by decide +kernel
theorem dX6_workOut_42 : decode cX6_workOut 42 = .ok (.if_icmp .ge 43, 3) := by decide +kernel
theorem dX6_workOut_45 : decode cX6_workOut 45 = .ok (.aload_n 0, 1) := by decide +kernel
theorem dX6_workOut_46 : decode cX6_workOut 46 = .ok (.getfield 20, 3) := by decide +kernel
theorem dX6_workOut_49 : decode cX6_workOut 49 = .ok (.iload 5, 2) := by decide +kernel
theorem dX6_workOut_51 : decode cX6_workOut 51 = .ok (.iload 7, 2) := by decide +kernel
theorem dX6_workOut_53 : decode cX6_workOut 53 = .ok (.sipush 10000, 3) := by decide +kernel
theorem dX6_workOut_56 : decode cX6_workOut 56 = .ok (.if_icmp .lt 20, 3) := by decide +kernel
theorem dX6_workOut_59 : decode cX6_workOut 59 = .ok (.iload 7, 2) := by decide +kernel
theorem dX6_workOut_61 : decode cX6_workOut 61 = .ok (.sipush 10000, 3) := by decide +kernel
theorem dX6_workOut_64 : decode cX6_workOut 64 = .ok (.isub, 1) := by decide +kernel
theorem dX6_workOut_65 : decode cX6_workOut 65 = .ok (.iload_n 1, 1) := by decide +kernel
theorem dX6_workOut_66 : decode cX6_workOut 66 = .ok (.iload_n 2, 1) := by decide +kernel
theorem dX6_workOut_67 : decode cX6_workOut 67 = .ok (.iload_n 3, 1) := by decide +kernel
theorem dX6_workOut_68 : decode cX6_workOut 68 = .ok (.iload 4, 2) := by decide +kernel
theorem dX6_workOut_70 : decode cX6_workOut 70 = .ok (.invokestatic 54, 3) := by decide +kernel
theorem dX6_workOut_73 : decode cX6_workOut 73 = .ok (.goto 5, 3) := by decide +kernel
theorem dX6_workOut_76 : decode cX6_workOut 76 = .ok (.iload 7, 2) := by decide +kernel
theorem dX6_workOut_78 : decode cX6_workOut 78 = .ok (.iastore, 1) := by decide +kernel
theorem dX6_workOut_79 : decode cX6_workOut 79 = .ok (.iinc 5 1, 3) := by decide +kernel
theorem dX6_workOut_82 : decode cX6_workOut 82 = .ok (.goto 85, 3) := by decide +kernel
theorem dX6_workOut_85 : decode cX6_workOut 85 = .ok (.iload 7, 2) := by decide +kernel
theorem dX6_workOut_87 : decode cX6_workOut 87 = .ok (.bipush (-33), 2) := by decide +kernel
theorem dX6_workOut_89 : decode cX6_workOut 89 = .ok (.if_icmp .ne 38, 3) := by decide +kernel
theorem dX6_workOut_92 : decode cX6_workOut 92 = .ok (.iload 5, 2) := by decide +kernel
theorem dX6_workOut_94 : decode cX6_workOut 94 = .ok (.iconst 1, 1) := by decide +kernel
theorem dX6_workOut_95 : decode cX6_workOut 95 = .ok (.if_icmp .lt 32, 3) := by decide +kernel
theorem dX6_workOut_98 : decode cX6_workOut 98 = .ok (.aload_n 0, 1) := by decide +kernel
theorem dX6_workOut_99 : decode cX6_workOut 99 = .ok (.getfield 20, 3) := by decide +kernel
theorem dX6_workOut_102 : decode cX6_workOut 102 = .ok (.iload 5, 2) := by decide +kernel
theorem dX6_workOut_104 : decode cX6_workOut 104 = .ok (.iconst 1, 1) := by decide +kernel
theorem dX6_workOut_105 : decode cX6_workOut 105 = .ok (.isub, 1) := by decide +kernel
theorem dX6_workOut_106 : decode cX6_workOut 106 = .ok (.aload_n 0, 1) := by decide +kernel
theorem dX6_workOut_107 : decode cX6_workOut 107 = .ok (.getfield 20, 3) := by decide +kernel
theorem dX6_workOut_110 : decode cX6_workOut 110 = .ok (.iload 5, 2) := by decide +kernel
theorem dX6_workOut_112 : decode cX6_workOut 112 = .ok (.iconst 1, 1) := by decide +kernel
theorem dX6_workOut_113 : decode cX6_workOut 113 = .ok (.isub, 1) := by decide +kernel
theorem dX6_workOut_114 : decode cX6_workOut 114 = .ok (.iaload, 1) := by decide +kernel
theorem dX6_workOut_115 : decode cX6_workOut 115 = .ok (.ifCond .ne 7, 3) := by decide +kernel
theorem dX6_workOut_118 : decode cX6_workOut 118 = .ok (.iconst 1, 1) := by decide +kernel
theorem dX6_workOut_119 : decode cX6_workOut 119 = .ok (.goto 4, 3) := by decide +kernel
theorem dX6_workOut_122 : decode cX6_workOut 122 = .ok (.iconst 0, 1) := by decide +kernel
theorem dX6_workOut_123 : decode cX6_workOut 123 = .ok (.iastore, 1) := by decide +kernel
theorem dX6_workOut_124 : decode cX6_workOut 124 = .ok (.goto 43, 3) := by decide +kernel
theorem dX6_workOut_127 : decode cX6_workOut 127 = .ok (.iload 5, 2) := by decide +kernel
theorem dX6_workOut_129 : decode cX6_workOut 129 = .ok (.iconst 2, 1) := by decide +kernel
theorem dX6_workOut_130 : decode cX6_workOut 130 = .ok (.if_icmp .lt 37, 3) := by decide +kernel
theorem dX6_workOut_133 : decode cX6_workOut 133 = .ok (.iinc 5 (-1), 3) := by decide +kernel
theorem dX6_workOut_136 : decode cX6_workOut 136 = .ok (.aload_n 0, 1) := by decide +kernel
theorem dX6_workOut_137 : decode cX6_workOut 137 = .ok (.getfield 20, 3) := by decide +kernel
theorem dX6_workOut_140 : decode cX6_workOut 140 = .ok (.iload 5, 2) := by decide +kernel
theorem dX6_workOut_142 : decode cX6_workOut 142 = .ok (.iconst 1, 1) := by decide +kernel
theorem dX6_workOut_143 : decode cX6_workOut 143 = .ok (.isub, 1) := by decide +kernel
theorem dX6_workOut_144 : decode cX6_workOut 144 = .ok (.iload 7, 2) := by decide +kernel
theorem dX6_workOut_146 : decode cX6_workOut 146 = .ok (.ineg, 1) := by decide +kernel
theorem dX6_workOut_147 : decode cX6_workOut 147 = .ok (.aload_n 0, 1) := by decide +kernel
theorem dX6_workOut_148 : decode cX6_workOut 148 = .ok (.getfield 20, 3) := by decide +kernel
theorem dX6_workOut_151 : decode cX6_workOut 151 = .ok (.iload 5, 2) := by decide +kernel
theorem dX6_workOut_153 : decode cX6_workOut 153 = .ok (.iconst 1, 1) := by decide +kernel
theorem dX6_workOut_154 : decode cX6_workOut 154 = .ok (.isub, 1) := by decide +kernel
theorem dX6_workOut_155 : decode cX6_workOut 155 = .ok (.iaload, 1) := by decide +kernel
theorem dX6_workOut_156 : decode cX6_workOut 156 = .ok (.aload_n 0, 1) := by decide +kernel
theorem dX6_workOut_157 : decode cX6_workOut 157 = .ok (.getfield 20, 3) := by decide +kernel
theorem dX6_workOut_160 : decode cX6_workOut 160 = .ok (.iload 5, 2) := by decide +kernel
theorem dX6_workOut_162 : decode cX6_workOut 162 = .ok (.iaload, 1) := by decide +kernel
theorem dX6_workOut_163 : decode cX6_workOut 163 = .ok (.invokestatic 58, 3) := by decide +kernel
theorem dX6_workOut_166 : decode cX6_workOut 166 = .ok (.iastore, 1) := by decide +kernel
theorem dX6_workOut_167 : decode cX6_workOut 167 = .ok (.iinc 6 1, 3) := by decide +kernel
theorem dX6_workOut_170 : decode cX6_workOut 170 = .ok (.goto (-164), 3) := by decide +kernel
theorem dX6_workOut_173 : decode cX6_workOut 173 = .ok (.aload_n 0, 1) := by decide +kernel
theorem dX6_workOut_174 : decode cX6_workOut 174 = .ok (.getfield 20, 3) := by decide +kernel
theorem dX6_workOut_177 : decode cX6_workOut 177 = .ok (.iconst 0, 1) := by decide +kernel
theorem dX6_workOut_178 : decode cX6_workOut 178 = .ok (.iaload, 1) := by decide +kernel
theorem dX6_workOut_179 : decode cX6_workOut 179 = .ok (.ireturn, 1) := by decide +kernel
theorem dX6_named_0 : decode cX6_named 0 = .ok (.iload_n 0, 1) := by decide +kernel
theorem dX6_named_1 : decode cX6_named 1 = .ok (.tableswitch 33 0 2 #[27, 29, 31], 27) := by decide +kernel
theorem dX6_named_28 : decode cX6_named 28 = .ok (.iload_n 1, 1) := by decide +kernel
theorem dX6_named_29 : decode cX6_named 29 = .ok (.ireturn, 1) := by decide +kernel
theorem dX6_named_30 : decode cX6_named 30 = .ok (.iload_n 2, 1) := by decide +kernel
theorem dX6_named_31 : decode cX6_named 31 = .ok (.ireturn, 1) := by decide +kernel
theorem dX6_named_32 : decode cX6_named 32 = .ok (.iload_n 3, 1) := by decide +kernel
theorem dX6_named_33 : decode cX6_named 33 = .ok (.ireturn, 1) := by decide +kernel
theorem dX6_named_34 : decode cX6_named 34 = .ok (.iload 4, 2) := by decide +kernel
theorem dX6_named_36 : decode cX6_named 36 = .ok (.ireturn, 1) := by decide +kernel
theorem dX6_joined_0 : decode cX6_joined 0 = .ok (.iload_n 0, 1) := by decide +kernel
theorem dX6_joined_1 : decode cX6_joined 1 = .ok (.lookupswitch 168 #[(38, 97), (42, 152), (43, 144), (45, 148), (47, 156), (60, 111), (61, 122), (62, 133), (124, 83)], 83) := by decide +kernel
theorem dX6_joined_84 : decode cX6_joined 84 = .ok (.iload_n 1, 1) := by decide +kernel
theorem dX6_joined_85 : decode cX6_joined 85 = .ok (.ifCond .ne 7, 3) := by decide +kernel
theorem dX6_joined_88 : decode cX6_joined 88 = .ok (.iload_n 2, 1) := by decide +kernel
theorem dX6_joined_89 : decode cX6_joined 89 = .ok (.ifCond .eq 7, 3) := by decide +kernel
theorem dX6_joined_92 : decode cX6_joined 92 = .ok (.iconst 1, 1) := by decide +kernel
theorem dX6_joined_93 : decode cX6_joined 93 = .ok (.goto 4, 3) := by decide +kernel
theorem dX6_joined_96 : decode cX6_joined 96 = .ok (.iconst 0, 1) := by decide +kernel
theorem dX6_joined_97 : decode cX6_joined 97 = .ok (.ireturn, 1) := by decide +kernel
theorem dX6_joined_98 : decode cX6_joined 98 = .ok (.iload_n 1, 1) := by decide +kernel
theorem dX6_joined_99 : decode cX6_joined 99 = .ok (.ifCond .eq 11, 3) := by decide +kernel
theorem dX6_joined_102 : decode cX6_joined 102 = .ok (.iload_n 2, 1) := by decide +kernel
theorem dX6_joined_103 : decode cX6_joined 103 = .ok (.ifCond .eq 7, 3) := by decide +kernel
theorem dX6_joined_106 : decode cX6_joined 106 = .ok (.iconst 1, 1) := by decide +kernel
theorem dX6_joined_107 : decode cX6_joined 107 = .ok (.goto 4, 3) := by decide +kernel
theorem dX6_joined_110 : decode cX6_joined 110 = .ok (.iconst 0, 1) := by decide +kernel
theorem dX6_joined_111 : decode cX6_joined 111 = .ok (.ireturn, 1) := by decide +kernel
theorem dX6_joined_112 : decode cX6_joined 112 = .ok (.iload_n 1, 1) := by decide +kernel
theorem dX6_joined_113 : decode cX6_joined 113 = .ok (.iload_n 2, 1) := by decide +kernel
theorem dX6_joined_114 : decode cX6_joined 114 = .ok (.if_icmp .ge 7, 3) := by decide +kernel
theorem dX6_joined_117 : decode cX6_joined 117 = .ok (.iconst 1, 1) := by decide +kernel
theorem dX6_joined_118 : decode cX6_joined 118 = .ok (.goto 4, 3) := by decide +kernel
theorem dX6_joined_121 : decode cX6_joined 121 = .ok (.iconst 0, 1) := by decide +kernel
theorem dX6_joined_122 : decode cX6_joined 122 = .ok (.ireturn, 1) := by decide +kernel
theorem dX6_joined_123 : decode cX6_joined 123 = .ok (.iload_n 1, 1) := by decide +kernel
theorem dX6_joined_124 : decode cX6_joined 124 = .ok (.iload_n 2, 1) := by decide +kernel
theorem dX6_joined_125 : decode cX6_joined 125 = .ok (.if_icmp .ne 7, 3) := by decide +kernel
theorem dX6_joined_128 : decode cX6_joined 128 = .ok (.iconst 1, 1) := by decide +kernel
theorem dX6_joined_129 : decode cX6_joined 129 = .ok (.goto 4, 3) := by decide +kernel
theorem dX6_joined_132 : decode cX6_joined 132 = .ok (.iconst 0, 1) := by decide +kernel
theorem dX6_joined_133 : decode cX6_joined 133 = .ok (.ireturn, 1) := by decide +kernel
theorem dX6_joined_134 : decode cX6_joined 134 = .ok (.iload_n 1, 1) := by decide +kernel
theorem dX6_joined_135 : decode cX6_joined 135 = .ok (.iload_n 2, 1) := by decide +kernel
theorem dX6_joined_136 : decode cX6_joined 136 = .ok (.if_icmp .le 7, 3) := by decide +kernel
theorem dX6_joined_139 : decode cX6_joined 139 = .ok (.iconst 1, 1) := by decide +kernel
theorem dX6_joined_140 : decode cX6_joined 140 = .ok (.goto 4, 3) := by decide +kernel
theorem dX6_joined_143 : decode cX6_joined 143 = .ok (.iconst 0, 1) := by decide +kernel
theorem dX6_joined_144 : decode cX6_joined 144 = .ok (.ireturn, 1) := by decide +kernel
theorem dX6_joined_145 : decode cX6_joined 145 = .ok (.iload_n 1, 1) := by decide +kernel
theorem dX6_joined_146 : decode cX6_joined 146 = .ok (.iload_n 2, 1) := by decide +kernel
theorem dX6_joined_147 : decode cX6_joined 147 = .ok (.iadd, 1) := by decide +kernel
theorem dX6_joined_148 : decode cX6_joined 148 = .ok (.ireturn, 1) := by decide +kernel
theorem dX6_joined_149 : decode cX6_joined 149 = .ok (.iload_n 1, 1) := by decide +kernel
theorem dX6_joined_150 : decode cX6_joined 150 = .ok (.iload_n 2, 1) := by decide +kernel
theorem dX6_joined_151 : decode cX6_joined 151 = .ok (.isub, 1) := by decide +kernel
theorem dX6_joined_152 : decode cX6_joined 152 = .ok (.ireturn, 1) := by decide +kernel
theorem dX6_joined_153 : decode cX6_joined 153 = .ok (.iload_n 1, 1) := by decide +kernel
theorem dX6_joined_154 : decode cX6_joined 154 = .ok (.iload_n 2, 1) := by decide +kernel
theorem dX6_joined_155 : decode cX6_joined 155 = .ok (.imul, 1) := by decide +kernel
theorem dX6_joined_156 : decode cX6_joined 156 = .ok (.ireturn, 1) := by decide +kernel
theorem dX6_joined_157 : decode cX6_joined 157 = .ok (.iload_n 2, 1) := by decide +kernel
theorem dX6_joined_158 : decode cX6_joined 158 = .ok (.ifCond .ne 7, 3) := by decide +kernel
theorem dX6_joined_161 : decode cX6_joined 161 = .ok (.iconst 0, 1) := by decide +kernel
theorem dX6_joined_162 : decode cX6_joined 162 = .ok (.goto 6, 3) := by decide +kernel
theorem dX6_joined_165 : decode cX6_joined 165 = .ok (.iload_n 1, 1) := by decide +kernel
theorem dX6_joined_166 : decode cX6_joined 166 = .ok (.iload_n 2, 1) := by decide +kernel
theorem dX6_joined_167 : decode cX6_joined 167 = .ok (.idiv, 1) := by decide +kernel
theorem dX6_joined_168 : decode cX6_joined 168 = .ok (.ireturn, 1) := by decide +kernel
theorem dX6_joined_169 : decode cX6_joined 169 = .ok (.iload_n 2, 1) := by decide +kernel
theorem dX6_joined_170 : decode cX6_joined 170 = .ok (.ifCond .ne 7, 3) := by decide +kernel
theorem dX6_joined_173 : decode cX6_joined 173 = .ok (.iconst 0, 1) := by decide +kernel
theorem dX6_joined_174 : decode cX6_joined 174 = .ok (.goto 6, 3) := by decide +kernel
theorem dX6_joined_177 : decode cX6_joined 177 = .ok (.iload_n 1, 1) := by decide +kernel
theorem dX6_joined_178 : decode cX6_joined 178 = .ok (.iload_n 2, 1) := by decide +kernel
theorem dX6_joined_179 : decode cX6_joined 179 = .ok (.irem, 1) := by decide +kernel
theorem dX6_joined_180 : decode cX6_joined 180 = .ok (.ireturn, 1) := by decide +kernel
theorem dX6_fail_0 : decode cX6_fail 0 = .ok (.aload_n 0, 1) := by decide +kernel
theorem dX6_fail_1 : decode cX6_fail 1 = .ok (.getfield 28, 3) := by decide +kernel
theorem dX6_fail_4 : decode cX6_fail 4 = .ok (.ifCond .ge 11, 3) := by decide +kernel
theorem dX6_fail_7 : decode cX6_fail 7 = .ok (.aload_n 0, 1) := by decide +kernel
theorem dX6_fail_8 : decode cX6_fail 8 = .ok (.aload_n 0, 1) := by decide +kernel
theorem dX6_fail_9 : decode cX6_fail 9 = .ok (.getfield 24, 3) := by decide +kernel
theorem dX6_fail_12 : decode cX6_fail 12 = .ok (.putfield 28, 3) := by decide +kernel
theorem dX6_fail_15 : decode cX6_fail 15 = .ok (.return_, 1) := by decide +kernel
theorem dX6_next_0 : decode cX6_next 0 = .ok (.aload_n 0, 1) := by decide +kernel
theorem dX6_next_1 : decode cX6_next 1 = .ok (.getfield 28, 3) := by decide +kernel
theorem dX6_next_4 : decode cX6_next 4 = .ok (.ifCond .ge 26, 3) := by decide +kernel
theorem dX6_next_7 : decode cX6_next 7 = .ok (.aload_n 1, 1) := by decide +kernel
theorem dX6_next_8 : decode cX6_next 8 = .ok (.aload_n 0, 1) := by decide +kernel
theorem dX6_next_9 : decode cX6_next 9 = .ok (.getfield 24, 3) := by decide +kernel
theorem dX6_next_12 : decode cX6_next 12 = .ok (.invokevirtual 62, 3) := by decide +kernel
theorem dX6_next_15 : decode cX6_next 15 = .ok (.ifCond .eq 15, 3) := by decide +kernel
theorem dX6_next_18 : decode cX6_next 18 = .ok (.aload_n 1, 1) := by decide +kernel
theorem dX6_next_19 : decode cX6_next 19 = .ok (.getfield 51, 3) := by decide +kernel
theorem dX6_next_22 : decode cX6_next 22 = .ok (.aload_n 0, 1) := by decide +kernel
theorem dX6_next_23 : decode cX6_next 23 = .ok (.getfield 24, 3) := by decide +kernel
theorem dX6_next_26 : decode cX6_next 26 = .ok (.iaload, 1) := by decide +kernel
theorem dX6_next_27 : decode cX6_next 27 = .ok (.goto 4, 3) := by decide +kernel
theorem dX6_next_30 : decode cX6_next 30 = .ok (.iconst (-1), 1) := by decide +kernel
theorem dX6_next_31 : decode cX6_next 31 = .ok (.ireturn, 1) := by decide +kernel
theorem dX6_readText_0 : decode cX6_readText 0 = .ok (.aload_n 0, 1) := by decide +kernel
theorem dX6_readText_1 : decode cX6_readText 1 = .ok (.aload_n 1, 1) := by decide +kernel
theorem dX6_readText_2 : decode cX6_readText 2 = .ok (.iload_n 2, 1) := by decide +kernel
theorem dX6_readText_3 : decode cX6_readText 3 = .ok (.invokevirtual 66, 3) := by decide +kernel
theorem dX6_readText_6 : decode cX6_readText 6 = .ok (.iconst 0, 1) := by decide +kernel
theorem dX6_readText_7 : decode cX6_readText 7 = .ok (.istore_n 3, 1) := by decide +kernel
theorem dX6_readText_8 : decode cX6_readText 8 = .ok (.iload_n 3, 1) := by decide +kernel
theorem dX6_readText_9 : decode cX6_readText 9 = .ok (.bipush 50, 2) := by decide +kernel
theorem dX6_readText_11 : decode cX6_readText 11 = .ok (.if_icmp .ge 44, 3) := by decide +kernel
theorem dX6_readText_14 : decode cX6_readText 14 = .ok (.aload_n 0, 1) := by decide +kernel
theorem dX6_readText_15 : decode cX6_readText 15 = .ok (.aload_n 1, 1) := by decide +kernel
theorem dX6_readText_16 : decode cX6_readText 16 = .ok (.invokevirtual 69, 3) := by decide +kernel
theorem dX6_readText_19 : decode cX6_readText 19 = .ok (.bipush 124, 2) := by decide +kernel
theorem dX6_readText_21 : decode cX6_readText 21 = .ok (.if_icmp .ne 34, 3) := by decide +kernel
theorem dX6_readText_24 : decode cX6_readText 24 = .ok (.aload_n 0, 1) := by decide +kernel
theorem dX6_readText_25 : decode cX6_readText 25 = .ok (.dup, 1) := by decide +kernel
theorem dX6_readText_26 : decode cX6_readText 26 = .ok (.getfield 24, 3) := by decide +kernel
theorem dX6_readText_29 : decode cX6_readText 29 = .ok (.iconst 1, 1) := by decide +kernel
theorem dX6_readText_30 : decode cX6_readText 30 = .ok (.iadd, 1) := by decide +kernel
theorem dX6_readText_31 : decode cX6_readText 31 = .ok (.putfield 24, 3) := by decide +kernel
theorem dX6_readText_34 : decode cX6_readText 34 = .ok (.aload_n 0, 1) := by decide +kernel
theorem dX6_readText_35 : decode cX6_readText 35 = .ok (.aload_n 1, 1) := by decide +kernel
theorem dX6_readText_36 : decode cX6_readText 36 = .ok (.iload_n 2, 1) := by decide +kernel
theorem dX6_readText_37 : decode cX6_readText 37 = .ok (.invokevirtual 66, 3) := by decide +kernel
theorem dX6_readText_40 : decode cX6_readText 40 = .ok (.aload_n 0, 1) := by decide +kernel
theorem dX6_readText_41 : decode cX6_readText 41 = .ok (.getfield 14, 3) := by decide +kernel
theorem dX6_readText_44 : decode cX6_readText 44 = .ok (.bipush (-124), 2) := by decide +kernel
theorem dX6_readText_46 : decode cX6_readText 46 = .ok (.invokevirtual 73, 3) := by decide +kernel
theorem dX6_readText_49 : decode cX6_readText 49 = .ok (.iinc 3 1, 3) := by decide +kernel
theorem dX6_readText_52 : decode cX6_readText 52 = .ok (.goto (-44), 3) := by decide +kernel
theorem dX6_readText_55 : decode cX6_readText 55 = .ok (.return_, 1) := by decide +kernel
theorem dX6_readBoth_0 : decode cX6_readBoth 0 = .ok (.aload_n 0, 1) := by decide +kernel
theorem dX6_readBoth_1 : decode cX6_readBoth 1 = .ok (.aload_n 1, 1) := by decide +kernel
theorem dX6_readBoth_2 : decode cX6_readBoth 2 = .ok (.iload_n 2, 1) := by decide +kernel
theorem dX6_readBoth_3 : decode cX6_readBoth 3 = .ok (.invokevirtual 76, 3) := by decide +kernel
theorem dX6_readBoth_6 : decode cX6_readBoth 6 = .ok (.iconst 0, 1) := by decide +kernel
theorem dX6_readBoth_7 : decode cX6_readBoth 7 = .ok (.istore_n 3, 1) := by decide +kernel
theorem dX6_readBoth_8 : decode cX6_readBoth 8 = .ok (.iload_n 3, 1) := by decide +kernel
theorem dX6_readBoth_9 : decode cX6_readBoth 9 = .ok (.bipush 50, 2) := by decide +kernel
theorem dX6_readBoth_11 : decode cX6_readBoth 11 = .ok (.if_icmp .ge 44, 3) := by decide +kernel
theorem dX6_readBoth_14 : decode cX6_readBoth 14 = .ok (.aload_n 0, 1) := by decide +kernel
theorem dX6_readBoth_15 : decode cX6_readBoth 15 = .ok (.aload_n 1, 1) := by decide +kernel
theorem dX6_readBoth_16 : decode cX6_readBoth 16 = .ok (.invokevirtual 69, 3) := by decide +kernel
theorem dX6_readBoth_19 : decode cX6_readBoth 19 = .ok (.bipush 38, 2) := by decide +kernel
theorem dX6_readBoth_21 : decode cX6_readBoth 21 = .ok (.if_icmp .ne 34, 3) := by decide +kernel
theorem dX6_readBoth_24 : decode cX6_readBoth 24 = .ok (.aload_n 0, 1) := by decide +kernel
theorem dX6_readBoth_25 : decode cX6_readBoth 25 = .ok (.dup, 1) := by decide +kernel
theorem dX6_readBoth_26 : decode cX6_readBoth 26 = .ok (.getfield 24, 3) := by decide +kernel
theorem dX6_readBoth_29 : decode cX6_readBoth 29 = .ok (.iconst 1, 1) := by decide +kernel
theorem dX6_readBoth_30 : decode cX6_readBoth 30 = .ok (.iadd, 1) := by decide +kernel
theorem dX6_readBoth_31 : decode cX6_readBoth 31 = .ok (.putfield 24, 3) := by decide +kernel
theorem dX6_readBoth_34 : decode cX6_readBoth 34 = .ok (.aload_n 0, 1) := by decide +kernel
theorem dX6_readBoth_35 : decode cX6_readBoth 35 = .ok (.aload_n 1, 1) := by decide +kernel
theorem dX6_readBoth_36 : decode cX6_readBoth 36 = .ok (.iload_n 2, 1) := by decide +kernel
theorem dX6_readBoth_37 : decode cX6_readBoth 37 = .ok (.invokevirtual 76, 3) := by decide +kernel
theorem dX6_readBoth_40 : decode cX6_readBoth 40 = .ok (.aload_n 0, 1) := by decide +kernel
theorem dX6_readBoth_41 : decode cX6_readBoth 41 = .ok (.getfield 14, 3) := by decide +kernel
theorem dX6_readBoth_44 : decode cX6_readBoth 44 = .ok (.bipush (-38), 2) := by decide +kernel
theorem dX6_readBoth_46 : decode cX6_readBoth 46 = .ok (.invokevirtual 73, 3) := by decide +kernel
theorem dX6_readBoth_49 : decode cX6_readBoth 49 = .ok (.iinc 3 1, 3) := by decide +kernel
theorem dX6_readBoth_52 : decode cX6_readBoth 52 = .ok (.goto (-44), 3) := by decide +kernel
theorem dX6_readBoth_55 : decode cX6_readBoth 55 = .ok (.return_, 1) := by decide +kernel
theorem dX6_readCompared_0 : decode cX6_readCompared 0 = .ok (.aload_n 0, 1) := by decide +kernel
theorem dX6_readCompared_1 : decode cX6_readCompared 1 = .ok (.aload_n 1, 1) := by decide +kernel
theorem dX6_readCompared_2 : decode cX6_readCompared 2 = .ok (.iload_n 2, 1) := by decide +kernel
theorem dX6_readCompared_3 : decode cX6_readCompared 3 = .ok (.invokevirtual 79, 3) := by decide +kernel
theorem dX6_readCompared_6 : decode cX6_readCompared 6 = .ok (.aload_n 0, 1) := by decide +kernel
theorem dX6_readCompared_7 : decode cX6_readCompared 7 = .ok (.aload_n 1, 1) := by decide +kernel
theorem dX6_readCompared_8 : decode cX6_readCompared 8 = .ok (.invokevirtual 69, 3) := by decide +kernel
theorem dX6_readCompared_11 : decode cX6_readCompared 11 = .ok (.istore_n 3, 1) := by decide +kernel
theorem dX6_readCompared_12 : decode cX6_readCompared 12 = .ok (.iload_n 3, 1) := by decide +kernel
theorem dX6_readCompared_13 : decode cX6_readCompared 13 = .ok (.bipush 60, 2) := by decide +kernel
theorem dX6_readCompared_15 : decode cX6_readCompared 15 = .ok (.if_icmp .eq 15, 3) := by decide +kernel
theorem dX6_readCompared_18 : decode cX6_readCompared 18 = .ok (.iload_n 3, 1) := by decide +kernel
theorem dX6_readCompared_19 : decode cX6_readCompared 19 = .ok (.bipush 61, 2) := by decide +kernel
theorem dX6_readCompared_21 : decode cX6_readCompared 21 = .ok (.if_icmp .eq 9, 3) := by decide +kernel
theorem dX6_readCompared_24 : decode cX6_readCompared 24 = .ok (.iload_n 3, 1) := by decide +kernel
theorem dX6_readCompared_25 : decode cX6_readCompared 25 = .ok (.bipush 62, 2) := by decide +kernel
theorem dX6_readCompared_27 : decode cX6_readCompared 27 = .ok (.if_icmp .ne 28, 3) := by decide +kernel
theorem dX6_readCompared_30 : decode cX6_readCompared 30 = .ok (.aload_n 0, 1) := by decide +kernel
theorem dX6_readCompared_31 : decode cX6_readCompared 31 = .ok (.dup, 1) := by decide +kernel
theorem dX6_readCompared_32 : decode cX6_readCompared 32 = .ok (.getfield 24, 3) := by decide +kernel
theorem dX6_readCompared_35 : decode cX6_readCompared 35 = .ok (.iconst 1, 1) := by decide +kernel
theorem dX6_readCompared_36 : decode cX6_readCompared 36 = .ok (.iadd, 1) := by decide +kernel
theorem dX6_readCompared_37 : decode cX6_readCompared 37 = .ok (.putfield 24, 3) := by decide +kernel
theorem dX6_readCompared_40 : decode cX6_readCompared 40 = .ok (.aload_n 0, 1) := by decide +kernel
theorem dX6_readCompared_41 : decode cX6_readCompared 41 = .ok (.aload_n 1, 1) := by decide +kernel
theorem dX6_readCompared_42 : decode cX6_readCompared 42 = .ok (.iload_n 2, 1) := by decide +kernel
theorem dX6_readCompared_43 : decode cX6_readCompared 43 = .ok (.invokevirtual 79, 3) := by decide +kernel
theorem dX6_readCompared_46 : decode cX6_readCompared 46 = .ok (.aload_n 0, 1) := by decide +kernel
theorem dX6_readCompared_47 : decode cX6_readCompared 47 = .ok (.getfield 14, 3) := by decide +kernel
theorem dX6_readCompared_50 : decode cX6_readCompared 50 = .ok (.iload_n 3, 1) := by decide +kernel
theorem dX6_readCompared_51 : decode cX6_readCompared 51 = .ok (.ineg, 1) := by decide +kernel
theorem dX6_readCompared_52 : decode cX6_readCompared 52 = .ok (.invokevirtual 73, 3) := by decide +kernel
theorem dX6_readCompared_55 : decode cX6_readCompared 55 = .ok (.return_, 1) := by decide +kernel
theorem dX6_readSum_0 : decode cX6_readSum 0 = .ok (.aload_n 0, 1) := by decide +kernel
theorem dX6_readSum_1 : decode cX6_readSum 1 = .ok (.aload_n 1, 1) := by decide +kernel
theorem dX6_readSum_2 : decode cX6_readSum 2 = .ok (.iload_n 2, 1) := by decide +kernel
theorem dX6_readSum_3 : decode cX6_readSum 3 = .ok (.invokevirtual 82, 3) := by decide +kernel
theorem dX6_readSum_6 : decode cX6_readSum 6 = .ok (.aload_n 0, 1) := by decide +kernel
theorem dX6_readSum_7 : decode cX6_readSum 7 = .ok (.aload_n 1, 1) := by decide +kernel
theorem dX6_readSum_8 : decode cX6_readSum 8 = .ok (.invokevirtual 69, 3) := by decide +kernel
theorem dX6_readSum_11 : decode cX6_readSum 11 = .ok (.istore_n 3, 1) := by decide +kernel
theorem dX6_readSum_12 : decode cX6_readSum 12 = .ok (.iconst 0, 1) := by decide +kernel
theorem dX6_readSum_13 : decode cX6_readSum 13 = .ok (.istore 4, 2) := by decide +kernel
theorem dX6_readSum_15 : decode cX6_readSum 15 = .ok (.iload 4, 2) := by decide +kernel
theorem dX6_readSum_17 : decode cX6_readSum 17 = .ok (.bipush 50, 2) := by decide +kernel
theorem dX6_readSum_19 : decode cX6_readSum 19 = .ok (.if_icmp .ge 52, 3) := by decide +kernel
theorem dX6_readSum_22 : decode cX6_readSum 22 = .ok (.iload_n 3, 1) := by decide +kernel
theorem dX6_readSum_23 : decode cX6_readSum 23 = .ok (.bipush 43, 2) := by decide +kernel
theorem dX6_readSum_25 : decode cX6_readSum 25 = .ok (.if_icmp .eq 9, 3) := by decide +kernel
theorem dX6_readSum_28 : decode cX6_readSum 28 = .ok (.iload_n 3, 1) := by decide +kernel
theorem dX6_readSum_29 : decode cX6_readSum 29 = .ok (.bipush 45, 2) := by decide +kernel
theorem dX6_readSum_31 : decode cX6_readSum 31 = .ok (.if_icmp .ne 40, 3) := by decide +kernel
theorem dX6_readSum_34 : decode cX6_readSum 34 = .ok (.aload_n 0, 1) := by decide +kernel
theorem dX6_readSum_35 : decode cX6_readSum 35 = .ok (.dup, 1) := by decide +kernel
theorem dX6_readSum_36 : decode cX6_readSum 36 = .ok (.getfield 24, 3) := by decide +kernel
theorem dX6_readSum_39 : decode cX6_readSum 39 = .ok (.iconst 1, 1) := by decide +kernel
theorem dX6_readSum_40 : decode cX6_readSum 40 = .ok (.iadd, 1) := by decide +kernel
theorem dX6_readSum_41 : decode cX6_readSum 41 = .ok (.putfield 24, 3) := by decide +kernel
theorem dX6_readSum_44 : decode cX6_readSum 44 = .ok (.aload_n 0, 1) := by decide +kernel
theorem dX6_readSum_45 : decode cX6_readSum 45 = .ok (.aload_n 1, 1) := by decide +kernel
theorem dX6_readSum_46 : decode cX6_readSum 46 = .ok (.iload_n 2, 1) := by decide +kernel
theorem dX6_readSum_47 : decode cX6_readSum 47 = .ok (.invokevirtual 82, 3) := by decide +kernel
theorem dX6_readSum_50 : decode cX6_readSum 50 = .ok (.aload_n 0, 1) := by decide +kernel
theorem dX6_readSum_51 : decode cX6_readSum 51 = .ok (.getfield 14, 3) := by decide +kernel
theorem dX6_readSum_54 : decode cX6_readSum 54 = .ok (.iload_n 3, 1) := by decide +kernel
theorem dX6_readSum_55 : decode cX6_readSum 55 = .ok (.ineg, 1) := by decide +kernel
theorem dX6_readSum_56 : decode cX6_readSum 56 = .ok (.invokevirtual 73, 3) := by decide +kernel
theorem dX6_readSum_59 : decode cX6_readSum 59 = .ok (.aload_n 0, 1) := by decide +kernel
theorem dX6_readSum_60 : decode cX6_readSum 60 = .ok (.aload_n 1, 1) := by decide +kernel
theorem dX6_readSum_61 : decode cX6_readSum 61 = .ok (.invokevirtual 69, 3) := by decide +kernel
theorem dX6_readSum_64 : decode cX6_readSum 64 = .ok (.istore_n 3, 1) := by decide +kernel
theorem dX6_readSum_65 : decode cX6_readSum 65 = .ok (.iinc 4 1, 3) := by decide +kernel
theorem dX6_readSum_68 : decode cX6_readSum 68 = .ok (.goto (-53), 3) := by decide +kernel
theorem dX6_readSum_71 : decode cX6_readSum 71 = .ok (.return_, 1) := by decide +kernel
theorem dX6_readProduct_0 : decode cX6_readProduct 0 = .ok (.aload_n 0, 1) := by decide +kernel
theorem dX6_readProduct_1 : decode cX6_readProduct 1 = .ok (.aload_n 1, 1) := by decide +kernel
theorem dX6_readProduct_2 : decode cX6_readProduct 2 = .ok (.iload_n 2, 1) := by decide +kernel
theorem dX6_readProduct_3 : decode cX6_readProduct 3 = .ok (.invokevirtual 85, 3) := by decide +kernel
theorem dX6_readProduct_6 : decode cX6_readProduct 6 = .ok (.aload_n 0, 1) := by decide +kernel
theorem dX6_readProduct_7 : decode cX6_readProduct 7 = .ok (.aload_n 1, 1) := by decide +kernel
theorem dX6_readProduct_8 : decode cX6_readProduct 8 = .ok (.invokevirtual 69, 3) := by decide +kernel
theorem dX6_readProduct_11 : decode cX6_readProduct 11 = .ok (.istore_n 3, 1) := by decide +kernel
theorem dX6_readProduct_12 : decode cX6_readProduct 12 = .ok (.iconst 0, 1) := by decide +kernel
theorem dX6_readProduct_13 : decode cX6_readProduct 13 = .ok (.istore 4, 2) := by decide +kernel
theorem dX6_readProduct_15 : decode cX6_readProduct 15 = .ok (.iload 4, 2) := by decide +kernel
theorem dX6_readProduct_17 : decode cX6_readProduct 17 = .ok (.bipush 50, 2) := by decide +kernel
theorem dX6_readProduct_19 : decode cX6_readProduct 19 = .ok (.if_icmp .ge 58, 3) := by decide +kernel
theorem dX6_readProduct_22 : decode cX6_readProduct 22 = .ok (.iload_n 3, 1) := by decide +kernel
theorem dX6_readProduct_23 : decode cX6_readProduct 23 = .ok (.bipush 42, 2) := by decide +kernel
theorem dX6_readProduct_25 : decode cX6_readProduct 25 = .ok (.if_icmp .eq 15, 3) := by decide +kernel
theorem dX6_readProduct_28 : decode cX6_readProduct 28 = .ok (.iload_n 3, 1) := by decide +kernel
theorem dX6_readProduct_29 : decode cX6_readProduct 29 = .ok (.bipush 47, 2) := by decide +kernel
theorem dX6_readProduct_31 : decode cX6_readProduct 31 = .ok (.if_icmp .eq 9, 3) := by decide +kernel
theorem dX6_readProduct_34 : decode cX6_readProduct 34 = .ok (.iload_n 3, 1) := by decide +kernel
theorem dX6_readProduct_35 : decode cX6_readProduct 35 = .ok (.bipush 37, 2) := by decide +kernel
theorem dX6_readProduct_37 : decode cX6_readProduct 37 = .ok (.if_icmp .ne 40, 3) := by decide +kernel
theorem dX6_readProduct_40 : decode cX6_readProduct 40 = .ok (.aload_n 0, 1) := by decide +kernel
theorem dX6_readProduct_41 : decode cX6_readProduct 41 = .ok (.dup, 1) := by decide +kernel
theorem dX6_readProduct_42 : decode cX6_readProduct 42 = .ok (.getfield 24, 3) := by decide +kernel
theorem dX6_readProduct_45 : decode cX6_readProduct 45 = .ok (.iconst 1, 1) := by decide +kernel
theorem dX6_readProduct_46 : decode cX6_readProduct 46 = .ok (.iadd, 1) := by decide +kernel
theorem dX6_readProduct_47 : decode cX6_readProduct 47 = .ok (.putfield 24, 3) := by decide +kernel
theorem dX6_readProduct_50 : decode cX6_readProduct 50 = .ok (.aload_n 0, 1) := by decide +kernel
theorem dX6_readProduct_51 : decode cX6_readProduct 51 = .ok (.aload_n 1, 1) := by decide +kernel
theorem dX6_readProduct_52 : decode cX6_readProduct 52 = .ok (.iload_n 2, 1) := by decide +kernel
theorem dX6_readProduct_53 : decode cX6_readProduct 53 = .ok (.invokevirtual 85, 3) := by decide +kernel
theorem dX6_readProduct_56 : decode cX6_readProduct 56 = .ok (.aload_n 0, 1) := by decide +kernel
theorem dX6_readProduct_57 : decode cX6_readProduct 57 = .ok (.getfield 14, 3) := by decide +kernel
theorem dX6_readProduct_60 : decode cX6_readProduct 60 = .ok (.iload_n 3, 1) := by decide +kernel
theorem dX6_readProduct_61 : decode cX6_readProduct 61 = .ok (.ineg, 1) := by decide +kernel
theorem dX6_readProduct_62 : decode cX6_readProduct 62 = .ok (.invokevirtual 73, 3) := by decide +kernel
theorem dX6_readProduct_65 : decode cX6_readProduct 65 = .ok (.aload_n 0, 1) := by decide +kernel
theorem dX6_readProduct_66 : decode cX6_readProduct 66 = .ok (.aload_n 1, 1) := by decide +kernel
theorem dX6_readProduct_67 : decode cX6_readProduct 67 = .ok (.invokevirtual 69, 3) := by decide +kernel
theorem dX6_readProduct_70 : decode cX6_readProduct 70 = .ok (.istore_n 3, 1) := by decide +kernel
theorem dX6_readProduct_71 : decode cX6_readProduct 71 = .ok (.iinc 4 1, 3) := by decide +kernel
theorem dX6_readProduct_74 : decode cX6_readProduct 74 = .ok (.goto (-59), 3) := by decide +kernel
theorem dX6_readProduct_77 : decode cX6_readProduct 77 = .ok (.return_, 1) := by decide +kernel
theorem dX6_readPart_0 : decode cX6_readPart 0 = .ok (.aload_n 0, 1) := by decide +kernel
theorem dX6_readPart_1 : decode cX6_readPart 1 = .ok (.aload_n 1, 1) := by decide +kernel
theorem dX6_readPart_2 : decode cX6_readPart 2 = .ok (.invokevirtual 69, 3) := by decide +kernel
theorem dX6_readPart_5 : decode cX6_readPart 5 = .ok (.istore_n 3, 1) := by decide +kernel
theorem dX6_readPart_6 : decode cX6_readPart 6 = .ok (.iload_n 3, 1) := by decide +kernel
theorem dX6_readPart_7 : decode cX6_readPart 7 = .ok (.invokestatic 88, 3) := by decide +kernel
theorem dX6_readPart_10 : decode cX6_readPart 10 = .ok (.ifCond .eq 11, 3) := by decide +kernel
theorem dX6_readPart_13 : decode cX6_readPart 13 = .ok (.aload_n 0, 1) := by decide +kernel
theorem dX6_readPart_14 : decode cX6_readPart 14 = .ok (.aload_n 1, 1) := by decide +kernel
theorem dX6_readPart_15 : decode cX6_readPart 15 = .ok (.invokevirtual 91, 3) := by decide +kernel
theorem dX6_readPart_18 : decode cX6_readPart 18 = .ok (.goto 47, 3) := by decide +kernel
theorem dX6_readPart_21 : decode cX6_readPart 21 = .ok (.iload_n 3, 1) := by decide +kernel
theorem dX6_readPart_22 : decode cX6_readPart 22 = .ok (.bipush 33, 2) := by decide +kernel
theorem dX6_readPart_24 : decode cX6_readPart 24 = .ok (.if_icmp .eq 9, 3) := by decide +kernel
theorem dX6_readPart_27 : decode cX6_readPart 27 = .ok (.iload_n 3, 1) := by decide +kernel
theorem dX6_readPart_28 : decode cX6_readPart 28 = .ok (.bipush 40, 2) := by decide +kernel
theorem dX6_readPart_30 : decode cX6_readPart 30 = .ok (.if_icmp .ne 30, 3) := by decide +kernel
theorem dX6_readPart_33 : decode cX6_readPart 33 = .ok (.iload_n 2, 1) := by decide +kernel
theorem dX6_readPart_34 : decode cX6_readPart 34 = .ok (.iconst 5, 1) := by decide +kernel
theorem dX6_readPart_35 : decode cX6_readPart 35 = .ok (.if_icmp .ge 25, 3) := by decide +kernel
theorem dX6_readPart_38 : decode cX6_readPart 38 = .ok (.aload_n 0, 1) := by decide +kernel
theorem dX6_readPart_39 : decode cX6_readPart 39 = .ok (.dup, 1) := by decide +kernel
theorem dX6_readPart_40 : decode cX6_readPart 40 = .ok (.getfield 24, 3) := by decide +kernel
theorem dX6_readPart_43 : decode cX6_readPart 43 = .ok (.iconst 1, 1) := by decide +kernel
theorem dX6_readPart_44 : decode cX6_readPart 44 = .ok (.iadd, 1) := by decide +kernel
theorem dX6_readPart_45 : decode cX6_readPart 45 = .ok (.putfield 24, 3) := by decide +kernel
theorem dX6_readPart_48 : decode cX6_readPart 48 = .ok (.aload_n 0, 1) := by decide +kernel
theorem dX6_readPart_49 : decode cX6_readPart 49 = .ok (.iload_n 3, 1) := by decide +kernel
theorem dX6_readPart_50 : decode cX6_readPart 50 = .ok (.aload_n 1, 1) := by decide +kernel
theorem dX6_readPart_51 : decode cX6_readPart 51 = .ok (.iload_n 2, 1) := by decide +kernel
theorem dX6_readPart_52 : decode cX6_readPart 52 = .ok (.iconst 1, 1) := by decide +kernel
theorem dX6_readPart_53 : decode cX6_readPart 53 = .ok (.iadd, 1) := by decide +kernel
theorem dX6_readPart_54 : decode cX6_readPart 54 = .ok (.invokevirtual 95, 3) := by decide +kernel
theorem dX6_readPart_57 : decode cX6_readPart 57 = .ok (.goto 8, 3) := by decide +kernel
theorem dX6_readPart_60 : decode cX6_readPart 60 = .ok (.aload_n 0, 1) := by decide +kernel
theorem dX6_readPart_61 : decode cX6_readPart 61 = .ok (.iload_n 3, 1) := by decide +kernel
theorem dX6_readPart_62 : decode cX6_readPart 62 = .ok (.invokevirtual 99, 3) := by decide +kernel
theorem dX6_readPart_65 : decode cX6_readPart 65 = .ok (.return_, 1) := by decide +kernel
theorem dX6_readOpened_0 : decode cX6_readOpened 0 = .ok (.iload_n 1, 1) := by decide +kernel
theorem dX6_readOpened_1 : decode cX6_readOpened 1 = .ok (.bipush 33, 2) := by decide +kernel
theorem dX6_readOpened_3 : decode cX6_readOpened 3 = .ok (.if_icmp .ne 19, 3) := by decide +kernel
theorem dX6_readOpened_6 : decode cX6_readOpened 6 = .ok (.aload_n 0, 1) := by decide +kernel
theorem dX6_readOpened_7 : decode cX6_readOpened 7 = .ok (.aload_n 2, 1) := by decide +kernel
theorem dX6_readOpened_8 : decode cX6_readOpened 8 = .ok (.iload_n 3, 1) := by decide +kernel
theorem dX6_readOpened_9 : decode cX6_readOpened 9 = .ok (.invokevirtual 85, 3) := by decide +kernel
theorem dX6_readOpened_12 : decode cX6_readOpened 12 = .ok (.aload_n 0, 1) := by decide +kernel
theorem dX6_readOpened_13 : decode cX6_readOpened 13 = .ok (.getfield 14, 3) := by decide +kernel
theorem dX6_readOpened_16 : decode cX6_readOpened 16 = .ok (.bipush (-33), 2) := by decide +kernel
theorem dX6_readOpened_18 : decode cX6_readOpened 18 = .ok (.invokevirtual 73, 3) := by decide +kernel
theorem dX6_readOpened_21 : decode cX6_readOpened 21 = .ok (.return_, 1) := by decide +kernel
theorem dX6_readOpened_22 : decode cX6_readOpened 22 = .ok (.aload_n 0, 1) := by decide +kernel
theorem dX6_readOpened_23 : decode cX6_readOpened 23 = .ok (.aload_n 2, 1) := by decide +kernel
theorem dX6_readOpened_24 : decode cX6_readOpened 24 = .ok (.iload_n 3, 1) := by decide +kernel
theorem dX6_readOpened_25 : decode cX6_readOpened 25 = .ok (.invokevirtual 41, 3) := by decide +kernel
theorem dX6_readOpened_28 : decode cX6_readOpened 28 = .ok (.aload_n 0, 1) := by decide +kernel
theorem dX6_readOpened_29 : decode cX6_readOpened 29 = .ok (.aload_n 2, 1) := by decide +kernel
theorem dX6_readOpened_30 : decode cX6_readOpened 30 = .ok (.invokevirtual 69, 3) := by decide +kernel
theorem dX6_readOpened_33 : decode cX6_readOpened 33 = .ok (.bipush 41, 2) := by decide +kernel
theorem dX6_readOpened_35 : decode cX6_readOpened 35 = .ok (.if_icmp .ne 16, 3) := by decide +kernel
theorem dX6_readOpened_38 : decode cX6_readOpened 38 = .ok (.aload_n 0, 1) := by decide +kernel
theorem dX6_readOpened_39 : decode cX6_readOpened 39 = .ok (.dup, 1) := by decide +kernel
theorem dX6_readOpened_40 : decode cX6_readOpened 40 = .ok (.getfield 24, 3) := by decide +kernel
theorem dX6_readOpened_43 : decode cX6_readOpened 43 = .ok (.iconst 1, 1) := by decide +kernel
theorem dX6_readOpened_44 : decode cX6_readOpened 44 = .ok (.iadd, 1) := by decide +kernel
theorem dX6_readOpened_45 : decode cX6_readOpened 45 = .ok (.putfield 24, 3) := by decide +kernel
theorem dX6_readOpened_48 : decode cX6_readOpened 48 = .ok (.goto 7, 3) := by decide +kernel
theorem dX6_readOpened_51 : decode cX6_readOpened 51 = .ok (.aload_n 0, 1) := by decide +kernel
theorem dX6_readOpened_52 : decode cX6_readOpened 52 = .ok (.invokevirtual 48, 3) := by decide +kernel
theorem dX6_readOpened_55 : decode cX6_readOpened 55 = .ok (.return_, 1) := by decide +kernel
theorem dX6_readNumber_0 : decode cX6_readNumber 0 = .ok (.iconst 0, 1) := by decide +kernel
theorem dX6_readNumber_1 : decode cX6_readNumber 1 = .ok (.istore_n 2, 1) := by decide +kernel
theorem dX6_readNumber_2 : decode cX6_readNumber 2 = .ok (.iconst 0, 1) := by decide +kernel
theorem dX6_readNumber_3 : decode cX6_readNumber 3 = .ok (.istore_n 3, 1) := by decide +kernel
theorem dX6_readNumber_4 : decode cX6_readNumber 4 = .ok (.iload_n 3, 1) := by decide +kernel
theorem dX6_readNumber_5 : decode cX6_readNumber 5 = .ok (.iconst 4, 1) := by decide +kernel
theorem dX6_readNumber_6 : decode cX6_readNumber 6 = .ok (.if_icmp .ge 44, 3) := by decide +kernel
theorem dX6_readNumber_9 : decode cX6_readNumber 9 = .ok (.aload_n 0, 1) := by decide +kernel
theorem dX6_readNumber_10 : decode cX6_readNumber 10 = .ok (.aload_n 1, 1) := by decide +kernel
theorem dX6_readNumber_11 : decode cX6_readNumber 11 = .ok (.invokevirtual 69, 3) := by decide +kernel
theorem dX6_readNumber_14 : decode cX6_readNumber 14 = .ok (.invokestatic 88, 3) := by decide +kernel
theorem dX6_readNumber_17 : decode cX6_readNumber 17 = .ok (.ifCond .eq 33, 3) := by decide +kernel
theorem dX6_readNumber_20 : decode cX6_readNumber 20 = .ok (.bipush 10, 2) := by decide +kernel
theorem dX6_readNumber_22 : decode cX6_readNumber 22 = .ok (.iload_n 2, 1) := by decide +kernel
theorem dX6_readNumber_23 : decode cX6_readNumber 23 = .ok (.imul, 1) := by decide +kernel
theorem dX6_readNumber_24 : decode cX6_readNumber 24 = .ok (.aload_n 0, 1) := by decide +kernel
theorem dX6_readNumber_25 : decode cX6_readNumber 25 = .ok (.aload_n 1, 1) := by decide +kernel
theorem dX6_readNumber_26 : decode cX6_readNumber 26 = .ok (.invokevirtual 69, 3) := by decide +kernel
theorem dX6_readNumber_29 : decode cX6_readNumber 29 = .ok (.iadd, 1) := by decide +kernel
theorem dX6_readNumber_30 : decode cX6_readNumber 30 = .ok (.bipush 48, 2) := by decide +kernel
theorem dX6_readNumber_32 : decode cX6_readNumber 32 = .ok (.isub, 1) := by decide +kernel
theorem dX6_readNumber_33 : decode cX6_readNumber 33 = .ok (.istore_n 2, 1) := by decide +kernel
theorem dX6_readNumber_34 : decode cX6_readNumber 34 = .ok (.aload_n 0, 1) := by decide +kernel
theorem dX6_readNumber_35 : decode cX6_readNumber 35 = .ok (.dup, 1) := by decide +kernel
theorem dX6_readNumber_36 : decode cX6_readNumber 36 = .ok (.getfield 24, 3) := by decide +kernel
theorem dX6_readNumber_39 : decode cX6_readNumber 39 = .ok (.iconst 1, 1) := by decide +kernel
theorem dX6_readNumber_40 : decode cX6_readNumber 40 = .ok (.iadd, 1) := by decide +kernel
theorem dX6_readNumber_41 : decode cX6_readNumber 41 = .ok (.putfield 24, 3) := by decide +kernel
theorem dX6_readNumber_44 : decode cX6_readNumber 44 = .ok (.iinc 3 1, 3) := by decide +kernel
theorem dX6_readNumber_47 : decode cX6_readNumber 47 = .ok (.goto (-43), 3) := by decide +kernel
theorem dX6_readNumber_50 : decode cX6_readNumber 50 = .ok (.aload_n 0, 1) := by decide +kernel
theorem dX6_readNumber_51 : decode cX6_readNumber 51 = .ok (.getfield 14, 3) := by decide +kernel
theorem dX6_readNumber_54 : decode cX6_readNumber 54 = .ok (.iload_n 2, 1) := by decide +kernel
theorem dX6_readNumber_55 : decode cX6_readNumber 55 = .ok (.invokevirtual 73, 3) := by decide +kernel
theorem dX6_readNumber_58 : decode cX6_readNumber 58 = .ok (.return_, 1) := by decide +kernel
theorem dX6_readName_0 : decode cX6_readName 0 = .ok (.iload_n 1, 1) := by decide +kernel
theorem dX6_readName_1 : decode cX6_readName 1 = .ok (.ifCond .ge 7, 3) := by decide +kernel
theorem dX6_readName_4 : decode cX6_readName 4 = .ok (.iconst (-1), 1) := by decide +kernel
theorem dX6_readName_5 : decode cX6_readName 5 = .ok (.goto 12, 3) := by decide +kernel
theorem dX6_readName_8 : decode cX6_readName 8 = .ok (.aload_n 0, 1) := by decide +kernel
theorem dX6_readName_9 : decode cX6_readName 9 = .ok (.getfield 37, 3) := by decide +kernel
theorem dX6_readName_12 : decode cX6_readName 12 = .ok (.iload_n 1, 1) := by decide +kernel
theorem dX6_readName_13 : decode cX6_readName 13 = .ok (.i2c, 1) := by decide +kernel
theorem dX6_readName_14 : decode cX6_readName 14 = .ok (.invokevirtual 102, 3) := by decide +kernel
theorem dX6_readName_17 : decode cX6_readName 17 = .ok (.istore_n 2, 1) := by decide +kernel
theorem dX6_readName_18 : decode cX6_readName 18 = .ok (.iload_n 2, 1) := by decide +kernel
theorem dX6_readName_19 : decode cX6_readName 19 = .ok (.ifCond .ge 8, 3) := by decide +kernel
theorem dX6_readName_22 : decode cX6_readName 22 = .ok (.aload_n 0, 1) := by decide +kernel
theorem dX6_readName_23 : decode cX6_readName 23 = .ok (.invokevirtual 48, 3) := by decide +kernel
theorem dX6_readName_26 : decode cX6_readName 26 = .ok (.return_, 1) := by decide +kernel
theorem dX6_readName_27 : decode cX6_readName 27 = .ok (.aload_n 0, 1) := by decide +kernel
theorem dX6_readName_28 : decode cX6_readName 28 = .ok (.dup, 1) := by decide +kernel
theorem dX6_readName_29 : decode cX6_readName 29 = .ok (.getfield 24, 3) := by decide +kernel
theorem dX6_readName_32 : decode cX6_readName 32 = .ok (.iconst 1, 1) := by decide +kernel
theorem dX6_readName_33 : decode cX6_readName 33 = .ok (.iadd, 1) := by decide +kernel
theorem dX6_readName_34 : decode cX6_readName 34 = .ok (.putfield 24, 3) := by decide +kernel
theorem dX6_readName_37 : decode cX6_readName 37 = .ok (.aload_n 0, 1) := by decide +kernel
theorem dX6_readName_38 : decode cX6_readName 38 = .ok (.getfield 14, 3) := by decide +kernel
theorem dX6_readName_41 : decode cX6_readName 41 = .ok (.sipush 10000, 3) := by decide +kernel
theorem dX6_readName_44 : decode cX6_readName 44 = .ok (.iload_n 2, 1) := by decide +kernel
theorem dX6_readName_45 : decode cX6_readName 45 = .ok (.iadd, 1) := by decide +kernel
theorem dX6_readName_46 : decode cX6_readName 46 = .ok (.invokevirtual 73, 3) := by decide +kernel
theorem dX6_readName_49 : decode cX6_readName 49 = .ok (.return_, 1) := by decide +kernel
theorem dX6_isDigit_0 : decode cX6_isDigit 0 = .ok (.iload_n 0, 1) := by decide +kernel
theorem dX6_isDigit_1 : decode cX6_isDigit 1 = .ok (.bipush 48, 2) := by decide +kernel
theorem dX6_isDigit_3 : decode cX6_isDigit 3 = .ok (.if_icmp .lt 13, 3) := by decide +kernel
theorem dX6_isDigit_6 : decode cX6_isDigit 6 = .ok (.iload_n 0, 1) := by decide +kernel
theorem dX6_isDigit_7 : decode cX6_isDigit 7 = .ok (.bipush 57, 2) := by decide +kernel
theorem dX6_isDigit_9 : decode cX6_isDigit 9 = .ok (.if_icmp .gt 7, 3) := by decide +kernel
theorem dX6_isDigit_12 : decode cX6_isDigit 12 = .ok (.iconst 1, 1) := by decide +kernel
theorem dX6_isDigit_13 : decode cX6_isDigit 13 = .ok (.goto 4, 3) := by decide +kernel
theorem dX6_isDigit_16 : decode cX6_isDigit 16 = .ok (.iconst 0, 1) := by decide +kernel
theorem dX6_isDigit_17 : decode cX6_isDigit 17 = .ok (.ireturn, 1) := by decide +kernel
theorem dX7_init_0 : decode cX7_init 0 = .ok (.aload_n 0, 1) := by decide +kernel
theorem dX7_init_1 : decode cX7_init 1 = .ok (.iload_n 1, 1) := by decide +kernel
theorem dX7_init_2 : decode cX7_init 2 = .ok (.iload_n 2, 1) := by decide +kernel
theorem dX7_init_3 : decode cX7_init 3 = .ok (.iload_n 3, 1) := by decide +kernel
theorem dX7_init_4 : decode cX7_init 4 = .ok (.iload 4, 2) := by decide +kernel
theorem dX7_init_6 : decode cX7_init 6 = .ok (.iload 5, 2) := by decide +kernel
theorem dX7_init_8 : decode cX7_init 8 = .ok (.invokespecial 3, 3) := by decide +kernel
theorem dX7_init_11 : decode cX7_init 11 = .ok (.return_, 1) := by decide +kernel
theorem dX7_kindNumber_0 : decode cX7_kindNumber 0 = .ok (.iconst 1, 1) := by decide +kernel
theorem dX7_kindNumber_1 : decode cX7_kindNumber 1 = .ok (.ireturn, 1) := by decide +kernel
theorem dX7_isOf_0 : decode cX7_isOf 0 = .ok (.iload_n 1, 1) := by decide +kernel
theorem dX7_isOf_1 : decode cX7_isOf 1 = .ok (.iconst 1, 1) := by decide +kernel
theorem dX7_isOf_2 : decode cX7_isOf 2 = .ok (.if_icmp .eq 11, 3) := by decide +kernel
theorem dX7_isOf_5 : decode cX7_isOf 5 = .ok (.aload_n 0, 1) := by decide +kernel
theorem dX7_isOf_6 : decode cX7_isOf 6 = .ok (.iload_n 1, 1) := by decide +kernel
theorem dX7_isOf_7 : decode cX7_isOf 7 = .ok (.invokespecial 9, 3) := by decide +kernel
theorem dX7_isOf_10 : decode cX7_isOf 10 = .ok (.ifCond .eq 7, 3) := by decide +kernel
theorem dX7_isOf_13 : decode cX7_isOf 13 = .ok (.iconst 1, 1) := by decide +kernel
theorem dX7_isOf_14 : decode cX7_isOf 14 = .ok (.goto 4, 3) := by decide +kernel
theorem dX7_isOf_17 : decode cX7_isOf 17 = .ok (.iconst 0, 1) := by decide +kernel
theorem dX7_isOf_18 : decode cX7_isOf 18 = .ok (.ireturn, 1) := by decide +kernel
theorem dX7_giving_0 : decode cX7_giving 0 = .ok (.iconst 5, 1) := by decide +kernel
theorem dX7_giving_1 : decode cX7_giving 1 = .ok (.ireturn, 1) := by decide +kernel
theorem dX7_usersFrom_0 : decode cX7_usersFrom 0 = .ok (.iconst 0, 1) := by decide +kernel
theorem dX7_usersFrom_1 : decode cX7_usersFrom 1 = .ok (.istore 4, 2) := by decide +kernel
theorem dX7_usersFrom_3 : decode cX7_usersFrom 3 = .ok (.iconst 0, 1) := by decide +kernel
theorem dX7_usersFrom_4 : decode cX7_usersFrom 4 = .ok (.istore 5, 2) := by decide +kernel
theorem dX7_usersFrom_6 : decode cX7_usersFrom 6 = .ok (.iload 5, 2) := by decide +kernel
theorem dX7_usersFrom_8 : decode cX7_usersFrom 8 = .ok (.aload_n 1, 1) := by decide +kernel
theorem dX7_usersFrom_9 : decode cX7_usersFrom 9 = .ok (.getfield 13, 3) := by decide +kernel
theorem dX7_usersFrom_12 : decode cX7_usersFrom 12 = .ok (.if_icmp .ge 34, 3) := by decide +kernel
theorem dX7_usersFrom_15 : decode cX7_usersFrom 15 = .ok (.iload_n 3, 1) := by decide +kernel
theorem dX7_usersFrom_16 : decode cX7_usersFrom 16 = .ok (.iload 5, 2) := by decide +kernel
theorem dX7_usersFrom_18 : decode cX7_usersFrom 18 = .ok (.ishr, 1) := by decide +kernel
theorem dX7_usersFrom_19 : decode cX7_usersFrom 19 = .ok (.iconst 1, 1) := by decide +kernel
theorem dX7_usersFrom_20 : decode cX7_usersFrom 20 = .ok (.iand, 1) := by decide +kernel
theorem dX7_usersFrom_21 : decode cX7_usersFrom 21 = .ok (.ifCond .eq 19, 3) := by decide +kernel
theorem dX7_usersFrom_24 : decode cX7_usersFrom 24 = .ok (.iload 4, 2) := by decide +kernel
theorem dX7_usersFrom_26 : decode cX7_usersFrom 26 = .ok (.aload_n 1, 1) := by decide +kernel
theorem dX7_usersFrom_27 : decode cX7_usersFrom 27 = .ok (.getfield 19, 3) := by decide +kernel
theorem dX7_usersFrom_30 : decode cX7_usersFrom 30 = .ok (.iconst 3, 1) := by decide +kernel
theorem dX7_usersFrom_31 : decode cX7_usersFrom 31 = .ok (.iload 5, 2) := by decide +kernel
theorem dX7_usersFrom_33 : decode cX7_usersFrom 33 = .ok (.imul, 1) := by decide +kernel
theorem dX7_usersFrom_34 : decode cX7_usersFrom 34 = .ok (.iconst 0, 1) := by decide +kernel
theorem dX7_usersFrom_35 : decode cX7_usersFrom 35 = .ok (.iadd, 1) := by decide +kernel
theorem dX7_usersFrom_36 : decode cX7_usersFrom 36 = .ok (.iaload, 1) := by decide +kernel
theorem dX7_usersFrom_37 : decode cX7_usersFrom 37 = .ok (.iadd, 1) := by decide +kernel
theorem dX7_usersFrom_38 : decode cX7_usersFrom 38 = .ok (.istore 4, 2) := by decide +kernel
theorem dX7_usersFrom_40 : decode cX7_usersFrom 40 = .ok (.iinc 5 1, 3) := by decide +kernel
theorem dX7_usersFrom_43 : decode cX7_usersFrom 43 = .ok (.goto (-37), 3) := by decide +kernel
theorem dX7_usersFrom_46 : decode cX7_usersFrom 46 = .ok (.iload 4, 2) := by decide +kernel
theorem dX7_usersFrom_48 : decode cX7_usersFrom 48 = .ok (.ireturn, 1) := by decide +kernel
theorem dX7_resting_0 : decode cX7_resting 0 = .ok (.aload_n 2, 1) := by decide +kernel
theorem dX7_resting_1 : decode cX7_resting 1 = .ok (.bipush 20, 2) := by decide +kernel
theorem dX7_resting_3 : decode cX7_resting 3 = .ok (.invokevirtual 23, 3) := by decide +kernel
theorem dX7_resting_6 : decode cX7_resting 6 = .ok (.aload_n 0, 1) := by decide +kernel
theorem dX7_resting_7 : decode cX7_resting 7 = .ok (.iload_n 1, 1) := by decide +kernel
theorem dX7_resting_8 : decode cX7_resting 8 = .ok (.aload_n 2, 1) := by decide +kernel
theorem dX7_resting_9 : decode cX7_resting 9 = .ok (.invokespecial 29, 3) := by decide +kernel
theorem dX7_resting_12 : decode cX7_resting 12 = .ok (.aload_n 0, 1) := by decide +kernel
theorem dX7_resting_13 : decode cX7_resting 13 = .ok (.iconst 1, 1) := by decide +kernel
theorem dX7_resting_14 : decode cX7_resting 14 = .ok (.aload_n 2, 1) := by decide +kernel
theorem dX7_resting_15 : decode cX7_resting 15 = .ok (.invokevirtual 33, 3) := by decide +kernel
theorem dX7_resting_18 : decode cX7_resting 18 = .ok (.isub, 1) := by decide +kernel
theorem dX7_resting_19 : decode cX7_resting 19 = .ok (.ireturn, 1) := by decide +kernel
theorem dX8_init_0 : decode cX8_init 0 = .ok (.aload_n 0, 1) := by decide +kernel
theorem dX8_init_1 : decode cX8_init 1 = .ok (.iload_n 1, 1) := by decide +kernel
theorem dX8_init_2 : decode cX8_init 2 = .ok (.iload_n 2, 1) := by decide +kernel
theorem dX8_init_3 : decode cX8_init 3 = .ok (.iload_n 3, 1) := by decide +kernel
theorem dX8_init_4 : decode cX8_init 4 = .ok (.iload 4, 2) := by decide +kernel
theorem dX8_init_6 : decode cX8_init 6 = .ok (.iload 5, 2) := by decide +kernel
theorem dX8_init_8 : decode cX8_init 8 = .ok (.invokespecial 3, 3) := by decide +kernel
theorem dX8_init_11 : decode cX8_init 11 = .ok (.return_, 1) := by decide +kernel
theorem dX8_kindNumber_0 : decode cX8_kindNumber 0 = .ok (.iconst 2, 1) := by decide +kernel
theorem dX8_kindNumber_1 : decode cX8_kindNumber 1 = .ok (.ireturn, 1) := by decide +kernel
theorem dX8_isOf_0 : decode cX8_isOf 0 = .ok (.iload_n 1, 1) := by decide +kernel
theorem dX8_isOf_1 : decode cX8_isOf 1 = .ok (.iconst 2, 1) := by decide +kernel
theorem dX8_isOf_2 : decode cX8_isOf 2 = .ok (.if_icmp .eq 11, 3) := by decide +kernel
theorem dX8_isOf_5 : decode cX8_isOf 5 = .ok (.aload_n 0, 1) := by decide +kernel
theorem dX8_isOf_6 : decode cX8_isOf 6 = .ok (.iload_n 1, 1) := by decide +kernel
theorem dX8_isOf_7 : decode cX8_isOf 7 = .ok (.invokespecial 9, 3) := by decide +kernel
theorem dX8_isOf_10 : decode cX8_isOf 10 = .ok (.ifCond .eq 7, 3) := by decide +kernel
theorem dX8_isOf_13 : decode cX8_isOf 13 = .ok (.iconst 1, 1) := by decide +kernel
theorem dX8_isOf_14 : decode cX8_isOf 14 = .ok (.goto 4, 3) := by decide +kernel
theorem dX8_isOf_17 : decode cX8_isOf 17 = .ok (.iconst 0, 1) := by decide +kernel
theorem dX8_isOf_18 : decode cX8_isOf 18 = .ok (.ireturn, 1) := by decide +kernel
theorem dX8_giving_0 : decode cX8_giving 0 = .ok (.iconst 3, 1) := by decide +kernel
theorem dX8_giving_1 : decode cX8_giving 1 = .ok (.ireturn, 1) := by decide +kernel
theorem dX8_usersFrom_0 : decode cX8_usersFrom 0 = .ok (.iconst 0, 1) := by decide +kernel
theorem dX8_usersFrom_1 : decode cX8_usersFrom 1 = .ok (.istore 4, 2) := by decide +kernel
theorem dX8_usersFrom_3 : decode cX8_usersFrom 3 = .ok (.iconst 0, 1) := by decide +kernel
theorem dX8_usersFrom_4 : decode cX8_usersFrom 4 = .ok (.istore 5, 2) := by decide +kernel
theorem dX8_usersFrom_6 : decode cX8_usersFrom 6 = .ok (.iload 5, 2) := by decide +kernel
theorem dX8_usersFrom_8 : decode cX8_usersFrom 8 = .ok (.aload_n 1, 1) := by decide +kernel
theorem dX8_usersFrom_9 : decode cX8_usersFrom 9 = .ok (.getfield 13, 3) := by decide +kernel
theorem dX8_usersFrom_12 : decode cX8_usersFrom 12 = .ok (.if_icmp .ge 29, 3) := by decide +kernel
theorem dX8_usersFrom_15 : decode cX8_usersFrom 15 = .ok (.iload_n 3, 1) := by decide +kernel
theorem dX8_usersFrom_16 : decode cX8_usersFrom 16 = .ok (.iload 5, 2) := by decide +kernel
theorem dX8_usersFrom_18 : decode cX8_usersFrom 18 = .ok (.ishr, 1) := by decide +kernel
theorem dX8_usersFrom_19 : decode cX8_usersFrom 19 = .ok (.iconst 1, 1) := by decide +kernel
theorem dX8_usersFrom_20 : decode cX8_usersFrom 20 = .ok (.iand, 1) := by decide +kernel
theorem dX8_usersFrom_21 : decode cX8_usersFrom 21 = .ok (.ifCond .eq 14, 3) := by decide +kernel
theorem dX8_usersFrom_24 : decode cX8_usersFrom 24 = .ok (.iload 4, 2) := by decide +kernel
theorem dX8_usersFrom_26 : decode cX8_usersFrom 26 = .ok (.aload_n 1, 1) := by decide +kernel
theorem dX8_usersFrom_27 : decode cX8_usersFrom 27 = .ok (.iload 5, 2) := by decide +kernel
theorem dX8_usersFrom_29 : decode cX8_usersFrom 29 = .ok (.invokevirtual 19, 3) := by decide +kernel
theorem dX8_usersFrom_32 : decode cX8_usersFrom 32 = .ok (.iadd, 1) := by decide +kernel
theorem dX8_usersFrom_33 : decode cX8_usersFrom 33 = .ok (.istore 4, 2) := by decide +kernel
theorem dX8_usersFrom_35 : decode cX8_usersFrom 35 = .ok (.iinc 5 1, 3) := by decide +kernel
theorem dX8_usersFrom_38 : decode cX8_usersFrom 38 = .ok (.goto (-32), 3) := by decide +kernel
theorem dX8_usersFrom_41 : decode cX8_usersFrom 41 = .ok (.iload 4, 2) := by decide +kernel
theorem dX8_usersFrom_43 : decode cX8_usersFrom 43 = .ok (.ireturn, 1) := by decide +kernel
theorem dX8_holding_0 : decode cX8_holding 0 = .ok (.aload_n 2, 1) := by decide +kernel
theorem dX8_holding_1 : decode cX8_holding 1 = .ok (.bipush 30, 2) := by decide +kernel
theorem dX8_holding_3 : decode cX8_holding 3 = .ok (.invokevirtual 23, 3) := by decide +kernel
theorem dX8_holding_6 : decode cX8_holding 6 = .ok (.aload_n 0, 1) := by decide +kernel
theorem dX8_holding_7 : decode cX8_holding 7 = .ok (.iload_n 1, 1) := by decide +kernel
theorem dX8_holding_8 : decode cX8_holding 8 = .ok (.aload_n 2, 1) := by decide +kernel
theorem dX8_holding_9 : decode cX8_holding 9 = .ok (.invokespecial 29, 3) := by decide +kernel
theorem dX8_holding_12 : decode cX8_holding 12 = .ok (.iconst 3, 1) := by decide +kernel
theorem dX8_holding_13 : decode cX8_holding 13 = .ok (.imul, 1) := by decide +kernel
theorem dX8_holding_14 : decode cX8_holding 14 = .ok (.ireturn, 1) := by decide +kernel
theorem dX9_init_0 : decode cX9_init 0 = .ok (.aload_n 0, 1) := by decide +kernel
theorem dX9_init_1 : decode cX9_init 1 = .ok (.invokespecial 3, 3) := by decide +kernel
theorem dX9_init_4 : decode cX9_init 4 = .ok (.aload_n 0, 1) := by decide +kernel
theorem dX9_init_5 : decode cX9_init 5 = .ok (.iload_n 1, 1) := by decide +kernel
theorem dX9_init_6 : decode cX9_init 6 = .ok (.putfield 9, 3) := by decide +kernel
theorem dX9_init_9 : decode cX9_init 9 = .ok (.aload_n 0, 1) := by decide +kernel
theorem dX9_init_10 : decode cX9_init 10 = .ok (.iload_n 2, 1) := by decide +kernel
theorem dX9_init_11 : decode cX9_init 11 = .ok (.putfield 15, 3) := by decide +kernel
theorem dX9_init_14 : decode cX9_init 14 = .ok (.aload_n 0, 1) := by decide +kernel
theorem dX9_init_15 : decode cX9_init 15 = .ok (.iload_n 3, 1) := by decide +kernel
theorem dX9_init_16 : decode cX9_init 16 = .ok (.putfield 18, 3) := by decide +kernel
theorem dX9_init_19 : decode cX9_init 19 = .ok (.aload_n 0, 1) := by decide +kernel
theorem dX9_init_20 : decode cX9_init 20 = .ok (.iload 4, 2) := by decide +kernel
theorem dX9_init_22 : decode cX9_init 22 = .ok (.putfield 21, 3) := by decide +kernel
theorem dX9_init_25 : decode cX9_init 25 = .ok (.aload_n 0, 1) := by decide +kernel
theorem dX9_init_26 : decode cX9_init 26 = .ok (.iload 5, 2) := by decide +kernel
theorem dX9_init_28 : decode cX9_init 28 = .ok (.putfield 24, 3) := by decide +kernel
theorem dX9_init_31 : decode cX9_init 31 = .ok (.return_, 1) := by decide +kernel
theorem dX9_kindNumber_0 : decode cX9_kindNumber 0 = .ok (.iconst 0, 1) := by decide +kernel
theorem dX9_kindNumber_1 : decode cX9_kindNumber 1 = .ok (.ireturn, 1) := by decide +kernel
theorem dX9_isOf_0 : decode cX9_isOf 0 = .ok (.iload_n 1, 1) := by decide +kernel
theorem dX9_isOf_1 : decode cX9_isOf 1 = .ok (.ifCond .ne 7, 3) := by decide +kernel
theorem dX9_isOf_4 : decode cX9_isOf 4 = .ok (.iconst 1, 1) := by decide +kernel
theorem dX9_isOf_5 : decode cX9_isOf 5 = .ok (.goto 4, 3) := by decide +kernel
theorem dX9_isOf_8 : decode cX9_isOf 8 = .ok (.iconst 0, 1) := by decide +kernel
theorem dX9_isOf_9 : decode cX9_isOf 9 = .ok (.ireturn, 1) := by decide +kernel
theorem dX9_spanWide_0 : decode cX9_spanWide 0 = .ok (.aload_n 0, 1) := by decide +kernel
theorem dX9_spanWide_1 : decode cX9_spanWide 1 = .ok (.getfield 24, 3) := by decide +kernel
theorem dX9_spanWide_4 : decode cX9_spanWide 4 = .ok (.ireturn, 1) := by decide +kernel
theorem dX9_giving_0 : decode cX9_giving 0 = .ok (.iconst 1, 1) := by decide +kernel
theorem dX9_giving_1 : decode cX9_giving 1 = .ok (.ireturn, 1) := by decide +kernel
theorem dX9_usersFrom_0 : decode cX9_usersFrom 0 = .ok (.aload_n 1, 1) := by decide +kernel
theorem dX9_usersFrom_1 : decode cX9_usersFrom 1 = .ok (.iload_n 2, 1) := by decide +kernel
theorem dX9_usersFrom_2 : decode cX9_usersFrom 2 = .ok (.invokevirtual 27, 3) := by decide +kernel
theorem dX9_usersFrom_5 : decode cX9_usersFrom 5 = .ok (.ireturn, 1) := by decide +kernel
theorem dX9_holding_0 : decode cX9_holding 0 = .ok (.aload_n 2, 1) := by decide +kernel
theorem dX9_holding_1 : decode cX9_holding 1 = .ok (.bipush 10, 2) := by decide +kernel
theorem dX9_holding_3 : decode cX9_holding 3 = .ok (.invokevirtual 33, 3) := by decide +kernel
theorem dX9_holding_6 : decode cX9_holding 6 = .ok (.iload_n 1, 1) := by decide +kernel
theorem dX9_holding_7 : decode cX9_holding 7 = .ok (.aload_n 0, 1) := by decide +kernel
theorem dX9_holding_8 : decode cX9_holding 8 = .ok (.getfield 9, 3) := by decide +kernel
theorem dX9_holding_11 : decode cX9_holding 11 = .ok (.iadd, 1) := by decide +kernel
theorem dX9_holding_12 : decode cX9_holding 12 = .ok (.ireturn, 1) := by decide +kernel
theorem dX9_resting_0 : decode cX9_resting 0 = .ok (.aload_n 2, 1) := by decide +kernel
theorem dX9_resting_1 : decode cX9_resting 1 = .ok (.bipush 11, 2) := by decide +kernel
theorem dX9_resting_3 : decode cX9_resting 3 = .ok (.invokevirtual 33, 3) := by decide +kernel
theorem dX9_resting_6 : decode cX9_resting 6 = .ok (.aload_n 0, 1) := by decide +kernel
theorem dX9_resting_7 : decode cX9_resting 7 = .ok (.iload_n 1, 1) := by decide +kernel
theorem dX9_resting_8 : decode cX9_resting 8 = .ok (.aload_n 2, 1) := by decide +kernel
theorem dX9_resting_9 : decode cX9_resting 9 = .ok (.invokevirtual 39, 3) := by decide +kernel
theorem dX9_resting_12 : decode cX9_resting 12 = .ok (.iconst 2, 1) := by decide +kernel
theorem dX9_resting_13 : decode cX9_resting 13 = .ok (.imul, 1) := by decide +kernel
theorem dX9_resting_14 : decode cX9_resting 14 = .ok (.ireturn, 1) := by decide +kernel
theorem dX9_falling_0 : decode cX9_falling 0 = .ok (.aload_n 2, 1) := by decide +kernel
theorem dX9_falling_1 : decode cX9_falling 1 = .ok (.bipush 12, 2) := by decide +kernel
theorem dX9_falling_3 : decode cX9_falling 3 = .ok (.invokevirtual 33, 3) := by decide +kernel
theorem dX9_falling_6 : decode cX9_falling 6 = .ok (.iload_n 1, 1) := by decide +kernel
theorem dX9_falling_7 : decode cX9_falling 7 = .ok (.aload_n 0, 1) := by decide +kernel
theorem dX9_falling_8 : decode cX9_falling 8 = .ok (.getfield 21, 3) := by decide +kernel
theorem dX9_falling_11 : decode cX9_falling 11 = .ok (.isub, 1) := by decide +kernel
theorem dX9_falling_12 : decode cX9_falling 12 = .ok (.ireturn, 1) := by decide +kernel
theorem dX9_telling_0 : decode cX9_telling 0 = .ok (.aload_n 2, 1) := by decide +kernel
theorem dX9_telling_1 : decode cX9_telling 1 = .ok (.bipush 13, 2) := by decide +kernel
theorem dX9_telling_3 : decode cX9_telling 3 = .ok (.invokevirtual 33, 3) := by decide +kernel
theorem dX9_telling_6 : decode cX9_telling 6 = .ok (.aload_n 0, 1) := by decide +kernel
theorem dX9_telling_7 : decode cX9_telling 7 = .ok (.iload_n 1, 1) := by decide +kernel
theorem dX9_telling_8 : decode cX9_telling 8 = .ok (.aload_n 2, 1) := by decide +kernel
theorem dX9_telling_9 : decode cX9_telling 9 = .ok (.invokevirtual 43, 3) := by decide +kernel
theorem dX9_telling_12 : decode cX9_telling 12 = .ok (.aload_n 0, 1) := by decide +kernel
theorem dX9_telling_13 : decode cX9_telling 13 = .ok (.iload_n 1, 1) := by decide +kernel
theorem dX9_telling_14 : decode cX9_telling 14 = .ok (.aload_n 2, 1) := by decide +kernel
theorem dX9_telling_15 : decode cX9_telling 15 = .ok (.invokevirtual 46, 3) := by decide +kernel
theorem dX9_telling_18 : decode cX9_telling 18 = .ok (.ixor, 1) := by decide +kernel
theorem dX9_telling_19 : decode cX9_telling 19 = .ok (.ireturn, 1) := by decide +kernel
theorem dX10_init_0 : decode cX10_init 0 = .ok (.aload_n 0, 1) := by decide +kernel
theorem dX10_init_1 : decode cX10_init 1 = .ok (.iload_n 1, 1) := by decide +kernel
theorem dX10_init_2 : decode cX10_init 2 = .ok (.iload_n 2, 1) := by decide +kernel
theorem dX10_init_3 : decode cX10_init 3 = .ok (.iload_n 3, 1) := by decide +kernel
theorem dX10_init_4 : decode cX10_init 4 = .ok (.iload 4, 2) := by decide +kernel
theorem dX10_init_6 : decode cX10_init 6 = .ok (.iload 5, 2) := by decide +kernel
theorem dX10_init_8 : decode cX10_init 8 = .ok (.invokespecial 3, 3) := by decide +kernel
theorem dX10_init_11 : decode cX10_init 11 = .ok (.return_, 1) := by decide +kernel
theorem dX10_kindNumber_0 : decode cX10_kindNumber 0 = .ok (.iconst 5, 1) := by decide +kernel
theorem dX10_kindNumber_1 : decode cX10_kindNumber 1 = .ok (.ireturn, 1) := by decide +kernel
theorem dX10_isOf_0 : decode cX10_isOf 0 = .ok (.iload_n 1, 1) := by decide +kernel
theorem dX10_isOf_1 : decode cX10_isOf 1 = .ok (.iconst 5, 1) := by decide +kernel
theorem dX10_isOf_2 : decode cX10_isOf 2 = .ok (.if_icmp .eq 11, 3) := by decide +kernel
theorem dX10_isOf_5 : decode cX10_isOf 5 = .ok (.aload_n 0, 1) := by decide +kernel
theorem dX10_isOf_6 : decode cX10_isOf 6 = .ok (.iload_n 1, 1) := by decide +kernel
theorem dX10_isOf_7 : decode cX10_isOf 7 = .ok (.invokespecial 9, 3) := by decide +kernel
theorem dX10_isOf_10 : decode cX10_isOf 10 = .ok (.ifCond .eq 7, 3) := by decide +kernel
theorem dX10_isOf_13 : decode cX10_isOf 13 = .ok (.iconst 1, 1) := by decide +kernel
theorem dX10_isOf_14 : decode cX10_isOf 14 = .ok (.goto 4, 3) := by decide +kernel
theorem dX10_isOf_17 : decode cX10_isOf 17 = .ok (.iconst 0, 1) := by decide +kernel
theorem dX10_isOf_18 : decode cX10_isOf 18 = .ok (.ireturn, 1) := by decide +kernel
theorem dX10_spanWide_0 : decode cX10_spanWide 0 = .ok (.iconst 2, 1) := by decide +kernel
theorem dX10_spanWide_1 : decode cX10_spanWide 1 = .ok (.aload_n 0, 1) := by decide +kernel
theorem dX10_spanWide_2 : decode cX10_spanWide 2 = .ok (.invokespecial 13, 3) := by decide +kernel
theorem dX10_spanWide_5 : decode cX10_spanWide 5 = .ok (.imul, 1) := by decide +kernel
theorem dX10_spanWide_6 : decode cX10_spanWide 6 = .ok (.ireturn, 1) := by decide +kernel
theorem dX10_giving_0 : decode cX10_giving 0 = .ok (.aload_n 0, 1) := by decide +kernel
theorem dX10_giving_1 : decode cX10_giving 1 = .ok (.invokespecial 17, 3) := by decide +kernel
theorem dX10_giving_4 : decode cX10_giving 4 = .ok (.iconst 1, 1) := by decide +kernel
theorem dX10_giving_5 : decode cX10_giving 5 = .ok (.isub, 1) := by decide +kernel
theorem dX10_giving_6 : decode cX10_giving 6 = .ok (.ireturn, 1) := by decide +kernel
theorem dX10_holding_0 : decode cX10_holding 0 = .ok (.aload_n 2, 1) := by decide +kernel
theorem dX10_holding_1 : decode cX10_holding 1 = .ok (.bipush 60, 2) := by decide +kernel
theorem dX10_holding_3 : decode cX10_holding 3 = .ok (.invokevirtual 20, 3) := by decide +kernel
theorem dX10_holding_6 : decode cX10_holding 6 = .ok (.aload_n 0, 1) := by decide +kernel
theorem dX10_holding_7 : decode cX10_holding 7 = .ok (.iload_n 1, 1) := by decide +kernel
theorem dX10_holding_8 : decode cX10_holding 8 = .ok (.aload_n 2, 1) := by decide +kernel
theorem dX10_holding_9 : decode cX10_holding 9 = .ok (.invokespecial 26, 3) := by decide +kernel
theorem dX10_holding_12 : decode cX10_holding 12 = .ok (.aload_n 0, 1) := by decide +kernel
theorem dX10_holding_13 : decode cX10_holding 13 = .ok (.getfield 30, 3) := by decide +kernel
theorem dX10_holding_16 : decode cX10_holding 16 = .ok (.ixor, 1) := by decide +kernel
theorem dX10_holding_17 : decode cX10_holding 17 = .ok (.ireturn, 1) := by decide +kernel
theorem dX10_resting_0 : decode cX10_resting 0 = .ok (.aload_n 2, 1) := by decide +kernel
theorem dX10_resting_1 : decode cX10_resting 1 = .ok (.bipush 61, 2) := by decide +kernel
theorem dX10_resting_3 : decode cX10_resting 3 = .ok (.invokevirtual 20, 3) := by decide +kernel
theorem dX10_resting_6 : decode cX10_resting 6 = .ok (.aload_n 0, 1) := by decide +kernel
theorem dX10_resting_7 : decode cX10_resting 7 = .ok (.iload_n 1, 1) := by decide +kernel
theorem dX10_resting_8 : decode cX10_resting 8 = .ok (.aload_n 2, 1) := by decide +kernel
theorem dX10_resting_9 : decode cX10_resting 9 = .ok (.invokespecial 36, 3) := by decide +kernel
theorem dX10_resting_12 : decode cX10_resting 12 = .ok (.iconst 5, 1) := by decide +kernel
theorem dX10_resting_13 : decode cX10_resting 13 = .ok (.iadd, 1) := by decide +kernel
theorem dX10_resting_14 : decode cX10_resting 14 = .ok (.ireturn, 1) := by decide +kernel
