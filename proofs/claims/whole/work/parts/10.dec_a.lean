theorem dX0_init_0 : decode cX0_init 0 = .ok (.aload_n 0, 1) := by decide +kernel
theorem dX0_init_1 : decode cX0_init 1 = .ok (.invokespecial 3, 3) := by decide +kernel
theorem dX0_init_4 : decode cX0_init 4 = .ok (.aload_n 0, 1) := by decide +kernel
theorem dX0_init_5 : decode cX0_init 5 = .ok (.bipush 100, 2) := by decide +kernel
theorem dX0_init_7 : decode cX0_init 7 = .ok (.newarray .int, 2) := by decide +kernel
theorem dX0_init_9 : decode cX0_init 9 = .ok (.putfield 9, 3) := by decide +kernel
theorem dX0_init_12 : decode cX0_init 12 = .ok (.aload_n 0, 1) := by decide +kernel
theorem dX0_init_13 : decode cX0_init 13 = .ok (.iconst 0, 1) := by decide +kernel
theorem dX0_init_14 : decode cX0_init 14 = .ok (.putfield 15, 3) := by decide +kernel
theorem dX0_init_17 : decode cX0_init 17 = .ok (.aload_n 0, 1) := by decide +kernel
theorem dX0_init_18 : decode cX0_init 18 = .ok (.iconst 0, 1) := by decide +kernel
theorem dX0_init_19 : decode cX0_init 19 = .ok (.putfield 19, 3) := by decide +kernel
theorem dX0_init_22 : decode cX0_init 22 = .ok (.aload_n 0, 1) := by decide +kernel
theorem dX0_init_23 : decode cX0_init 23 = .ok (.iconst 0, 1) := by decide +kernel
theorem dX0_init_24 : decode cX0_init 24 = .ok (.putfield 22, 3) := by decide +kernel
theorem dX0_init_27 : decode cX0_init 27 = .ok (.aload_n 0, 1) := by decide +kernel
theorem dX0_init_28 : decode cX0_init 28 = .ok (.iconst 0, 1) := by decide +kernel
theorem dX0_init_29 : decode cX0_init 29 = .ok (.putfield 25, 3) := by decide +kernel
theorem dX0_init_32 : decode cX0_init 32 = .ok (.aload_n 0, 1) := by decide +kernel
theorem dX0_init_33 : decode cX0_init 33 = .ok (.iconst 0, 1) := by decide +kernel
theorem dX0_init_34 : decode cX0_init 34 = .ok (.putfield 28, 3) := by decide +kernel
theorem dX0_init_37 : decode cX0_init 37 = .ok (.aload_n 0, 1) := by decide +kernel
theorem dX0_init_38 : decode cX0_init 38 = .ok (.iconst 0, 1) := by decide +kernel
theorem dX0_init_39 : decode cX0_init 39 = .ok (.putfield 31, 3) := by decide +kernel
theorem dX0_init_42 : decode cX0_init 42 = .ok (.return_, 1) := by decide +kernel
theorem dX0_begin_0 : decode cX0_begin 0 = .ok (.aload_n 0, 1) := by decide +kernel
theorem dX0_begin_1 : decode cX0_begin 1 = .ok (.getfield 15, 3) := by decide +kernel
theorem dX0_begin_4 : decode cX0_begin 4 = .ok (.ifCond .lt 12, 3) := by decide +kernel
theorem dX0_begin_7 : decode cX0_begin 7 = .ok (.aload_n 0, 1) := by decide +kernel
theorem dX0_begin_8 : decode cX0_begin 8 = .ok (.getfield 15, 3) := by decide +kernel
theorem dX0_begin_11 : decode cX0_begin 11 = .ok (.bipush 100, 2) := by decide +kernel
theorem dX0_begin_13 : decode cX0_begin 13 = .ok (.if_icmp .lt 8, 3) := by decide +kernel
theorem dX0_begin_16 : decode cX0_begin 16 = .ok (.aload_n 0, 1) := by decide +kernel
theorem dX0_begin_17 : decode cX0_begin 17 = .ok (.iconst 0, 1) := by decide +kernel
theorem dX0_begin_18 : decode cX0_begin 18 = .ok (.putfield 15, 3) := by decide +kernel
theorem dX0_begin_21 : decode cX0_begin 21 = .ok (.aload_n 0, 1) := by decide +kernel
theorem dX0_begin_22 : decode cX0_begin 22 = .ok (.getfield 9, 3) := by decide +kernel
theorem dX0_begin_25 : decode cX0_begin 25 = .ok (.aload_n 0, 1) := by decide +kernel
theorem dX0_begin_26 : decode cX0_begin 26 = .ok (.getfield 15, 3) := by decide +kernel
theorem dX0_begin_29 : decode cX0_begin 29 = .ok (.bipush 10, 2) := by decide +kernel
theorem dX0_begin_31 : decode cX0_begin 31 = .ok (.iload_n 1, 1) := by decide +kernel
theorem dX0_begin_32 : decode cX0_begin 32 = .ok (.imul, 1) := by decide +kernel
theorem dX0_begin_33 : decode cX0_begin 33 = .ok (.iload_n 2, 1) := by decide +kernel
theorem dX0_begin_34 : decode cX0_begin 34 = .ok (.iadd, 1) := by decide +kernel
theorem dX0_begin_35 : decode cX0_begin 35 = .ok (.iastore, 1) := by decide +kernel
theorem dX0_begin_36 : decode cX0_begin 36 = .ok (.aload_n 0, 1) := by decide +kernel
theorem dX0_begin_37 : decode cX0_begin 37 = .ok (.dup, 1) := by decide +kernel
theorem dX0_begin_38 : decode cX0_begin 38 = .ok (.getfield 15, 3) := by decide +kernel
theorem dX0_begin_41 : decode cX0_begin 41 = .ok (.iconst 1, 1) := by decide +kernel
theorem dX0_begin_42 : decode cX0_begin 42 = .ok (.iadd, 1) := by decide +kernel
theorem dX0_begin_43 : decode cX0_begin 43 = .ok (.putfield 15, 3) := by decide +kernel
theorem dX0_begin_46 : decode cX0_begin 46 = .ok (.aload_n 0, 1) := by decide +kernel
theorem dX0_begin_47 : decode cX0_begin 47 = .ok (.getfield 19, 3) := by decide +kernel
theorem dX0_begin_50 : decode cX0_begin 50 = .ok (.bipush 100, 2) := by decide +kernel
theorem dX0_begin_52 : decode cX0_begin 52 = .ok (.if_icmp .ge 13, 3) := by decide +kernel
theorem dX0_begin_55 : decode cX0_begin 55 = .ok (.aload_n 0, 1) := by decide +kernel
theorem dX0_begin_56 : decode cX0_begin 56 = .ok (.dup, 1) := by decide +kernel
theorem dX0_begin_57 : decode cX0_begin 57 = .ok (.getfield 19, 3) := by decide +kernel
theorem dX0_begin_60 : decode cX0_begin 60 = .ok (.iconst 1, 1) := by decide +kernel
theorem dX0_begin_61 : decode cX0_begin 61 = .ok (.iadd, 1) := by decide +kernel
theorem dX0_begin_62 : decode cX0_begin 62 = .ok (.putfield 19, 3) := by decide +kernel
theorem dX0_begin_65 : decode cX0_begin 65 = .ok (.aload_n 0, 1) := by decide +kernel
theorem dX0_begin_66 : decode cX0_begin 66 = .ok (.dup, 1) := by decide +kernel
theorem dX0_begin_67 : decode cX0_begin 67 = .ok (.getfield 22, 3) := by decide +kernel
theorem dX0_begin_70 : decode cX0_begin 70 = .ok (.iconst 1, 1) := by decide +kernel
theorem dX0_begin_71 : decode cX0_begin 71 = .ok (.iadd, 1) := by decide +kernel
theorem dX0_begin_72 : decode cX0_begin 72 = .ok (.putfield 22, 3) := by decide +kernel
theorem dX0_begin_75 : decode cX0_begin 75 = .ok (.return_, 1) := by decide +kernel
theorem dX0_row_0 : decode cX0_row 0 = .ok (.iload_n 1, 1) := by decide +kernel
theorem dX0_row_1 : decode cX0_row 1 = .ok (.ifCond .lt 11, 3) := by decide +kernel
theorem dX0_row_4 : decode cX0_row 4 = .ok (.iload_n 1, 1) := by decide +kernel
theorem dX0_row_5 : decode cX0_row 5 = .ok (.aload_n 0, 1) := by decide +kernel
theorem dX0_row_6 : decode cX0_row 6 = .ok (.getfield 19, 3) := by decide +kernel
theorem dX0_row_9 : decode cX0_row 9 = .ok (.if_icmp .lt 5, 3) := by decide +kernel
theorem dX0_row_12 : decode cX0_row 12 = .ok (.iconst (-1), 1) := by decide +kernel
theorem dX0_row_13 : decode cX0_row 13 = .ok (.ireturn, 1) := by decide +kernel
theorem dX0_row_14 : decode cX0_row 14 = .ok (.aload_n 0, 1) := by decide +kernel
theorem dX0_row_15 : decode cX0_row 15 = .ok (.getfield 15, 3) := by decide +kernel
theorem dX0_row_18 : decode cX0_row 18 = .ok (.iconst 1, 1) := by decide +kernel
theorem dX0_row_19 : decode cX0_row 19 = .ok (.isub, 1) := by decide +kernel
theorem dX0_row_20 : decode cX0_row 20 = .ok (.iload_n 1, 1) := by decide +kernel
theorem dX0_row_21 : decode cX0_row 21 = .ok (.isub, 1) := by decide +kernel
theorem dX0_row_22 : decode cX0_row 22 = .ok (.istore_n 2, 1) := by decide +kernel
theorem dX0_row_23 : decode cX0_row 23 = .ok (.iload_n 2, 1) := by decide +kernel
theorem dX0_row_24 : decode cX0_row 24 = .ok (.ifCond .ge 6, 3) := by decide +kernel
theorem dX0_row_27 : decode cX0_row 27 = .ok (.iinc 2 100, 3) := by decide +kernel
theorem dX0_row_30 : decode cX0_row 30 = .ok (.iload_n 2, 1) := by decide +kernel
theorem dX0_row_31 : decode cX0_row 31 = .ok (.iconst 0, 1) := by decide +kernel
theorem dX0_row_32 : decode cX0_row 32 = .ok (.bipush 99, 2) := by decide +kernel
theorem dX0_row_34 : decode cX0_row 34 = .ok (.invokestatic 34, 3) := by decide +kernel
theorem dX0_row_37 : decode cX0_row 37 = .ok (.ifCond .eq 12, 3) := by decide +kernel
theorem dX0_row_40 : decode cX0_row 40 = .ok (.aload_n 0, 1) := by decide +kernel
theorem dX0_row_41 : decode cX0_row 41 = .ok (.getfield 9, 3) := by decide +kernel
theorem dX0_row_44 : decode cX0_row 44 = .ok (.iload_n 2, 1) := by decide +kernel
theorem dX0_row_45 : decode cX0_row 45 = .ok (.iaload, 1) := by decide +kernel
theorem dX0_row_46 : decode cX0_row 46 = .ok (.goto 4, 3) := by decide +kernel
theorem dX0_row_49 : decode cX0_row 49 = .ok (.iconst (-1), 1) := by decide +kernel
theorem dX0_row_50 : decode cX0_row 50 = .ok (.ireturn, 1) := by decide +kernel
theorem dX1_init_0 : decode cX1_init 0 = .ok (.aload_n 0, 1) := by decide +kernel
theorem dX1_init_1 : decode cX1_init 1 = .ok (.aload_n 1, 1) := by decide +kernel
theorem dX1_init_2 : decode cX1_init 2 = .ok (.iload_n 2, 1) := by decide +kernel
theorem dX1_init_3 : decode cX1_init 3 = .ok (.iload_n 3, 1) := by decide +kernel
theorem dX1_init_4 : decode cX1_init 4 = .ok (.iload 4, 2) := by decide +kernel
theorem dX1_init_6 : decode cX1_init 6 = .ok (.invokespecial 3, 3) := by decide +kernel
theorem dX1_init_9 : decode cX1_init 9 = .ok (.return_, 1) := by decide +kernel
theorem dX1_doRest_0 : decode cX1_doRest 0 = .ok (.aload_n 0, 1) := by decide +kernel
theorem dX1_doRest_1 : decode cX1_doRest 1 = .ok (.getfield 9, 3) := by decide +kernel
theorem dX1_doRest_4 : decode cX1_doRest 4 = .ok (.iconst 0, 1) := by decide +kernel
theorem dX1_doRest_5 : decode cX1_doRest 5 = .ok (.iconst 5, 1) := by decide +kernel
theorem dX1_doRest_6 : decode cX1_doRest 6 = .ok (.invokevirtual 15, 3) := by decide +kernel
theorem dX1_doRest_9 : decode cX1_doRest 9 = .ok (.aload_n 0, 1) := by decide +kernel
theorem dX1_doRest_10 : decode cX1_doRest 10 = .ok (.iload_n 1, 1) := by decide +kernel
theorem dX1_doRest_11 : decode cX1_doRest 11 = .ok (.invokespecial 21, 3) := by decide +kernel
theorem dX1_doRest_14 : decode cX1_doRest 14 = .ok (.istore_n 2, 1) := by decide +kernel
theorem dX1_doRest_15 : decode cX1_doRest 15 = .ok (.aload_n 0, 1) := by decide +kernel
theorem dX1_doRest_16 : decode cX1_doRest 16 = .ok (.getfield 25, 3) := by decide +kernel
theorem dX1_doRest_19 : decode cX1_doRest 19 = .ok (.bipush 90, 2) := by decide +kernel
theorem dX1_doRest_21 : decode cX1_doRest 21 = .ok (.if_icmp .lt 32, 3) := by decide +kernel
theorem dX1_doRest_24 : decode cX1_doRest 24 = .ok (.aload_n 0, 1) := by decide +kernel
theorem dX1_doRest_25 : decode cX1_doRest 25 = .ok (.bipush 10, 2) := by decide +kernel
theorem dX1_doRest_27 : decode cX1_doRest 27 = .ok (.putfield 25, 3) := by decide +kernel
theorem dX1_doRest_30 : decode cX1_doRest 30 = .ok (.aload_n 0, 1) := by decide +kernel
theorem dX1_doRest_31 : decode cX1_doRest 31 = .ok (.getfield 9, 3) := by decide +kernel
theorem dX1_doRest_34 : decode cX1_doRest 34 = .ok (.dup, 1) := by decide +kernel
theorem dX1_doRest_35 : decode cX1_doRest 35 = .ok (.getfield 29, 3) := by decide +kernel
theorem dX1_doRest_38 : decode cX1_doRest 38 = .ok (.iconst 1, 1) := by decide +kernel
theorem dX1_doRest_39 : decode cX1_doRest 39 = .ok (.iadd, 1) := by decide +kernel
theorem dX1_doRest_40 : decode cX1_doRest 40 = .ok (.putfield 29, 3) := by decide +kernel
theorem dX1_doRest_43 : decode cX1_doRest 43 = .ok (.new 32, 3) := by decide +kernel
theorem dX1_doRest_46 : decode cX1_doRest 46 = .ok (.dup, 1) := by decide +kernel
theorem dX1_doRest_47 : decode cX1_doRest 47 = .ok (.ldc 34, 2) := by decide +kernel
theorem dX1_doRest_49 : decode cX1_doRest 49 = .ok (.invokespecial 36, 3) := by decide +kernel
theorem dX1_doRest_52 : decode cX1_doRest 52 = .ok (.athrow, 1) := by decide +kernel
theorem dX1_doRest_53 : decode cX1_doRest 53 = .ok (.iload_n 2, 1) := by decide +kernel
theorem dX1_doRest_54 : decode cX1_doRest 54 = .ok (.ireturn, 1) := by decide +kernel
theorem dX1_doLay_0 : decode cX1_doLay 0 = .ok (.aload_n 0, 1) := by decide +kernel
theorem dX1_doLay_1 : decode cX1_doLay 1 = .ok (.getfield 9, 3) := by decide +kernel
theorem dX1_doLay_4 : decode cX1_doLay 4 = .ok (.iconst 2, 1) := by decide +kernel
theorem dX1_doLay_5 : decode cX1_doLay 5 = .ok (.iconst 5, 1) := by decide +kernel
theorem dX1_doLay_6 : decode cX1_doLay 6 = .ok (.invokevirtual 15, 3) := by decide +kernel
theorem dX1_doLay_9 : decode cX1_doLay 9 = .ok (.aload_n 0, 1) := by decide +kernel
theorem dX1_doLay_10 : decode cX1_doLay 10 = .ok (.aload_n 1, 1) := by decide +kernel
theorem dX1_doLay_11 : decode cX1_doLay 11 = .ok (.iload_n 2, 1) := by decide +kernel
theorem dX1_doLay_12 : decode cX1_doLay 12 = .ok (.invokespecial 39, 3) := by decide +kernel
theorem dX1_doLay_15 : decode cX1_doLay 15 = .ok (.aload_n 0, 1) := by decide +kernel
theorem dX1_doLay_16 : decode cX1_doLay 16 = .ok (.aload_n 1, 1) := by decide +kernel
theorem dX1_doLay_17 : decode cX1_doLay 17 = .ok (.iload_n 2, 1) := by decide +kernel
theorem dX1_doLay_18 : decode cX1_doLay 18 = .ok (.iconst 1, 1) := by decide +kernel
theorem dX1_doLay_19 : decode cX1_doLay 19 = .ok (.iadd, 1) := by decide +kernel
theorem dX1_doLay_20 : decode cX1_doLay 20 = .ok (.invokespecial 39, 3) := by decide +kernel
theorem dX1_doLay_23 : decode cX1_doLay 23 = .ok (.return_, 1) := by decide +kernel
theorem dX1_askWorth_0 : decode cX1_askWorth 0 = .ok (.aload_n 0, 1) := by decide +kernel
theorem dX1_askWorth_1 : decode cX1_askWorth 1 = .ok (.getfield 9, 3) := by decide +kernel
theorem dX1_askWorth_4 : decode cX1_askWorth 4 = .ok (.iconst 4, 1) := by decide +kernel
theorem dX1_askWorth_5 : decode cX1_askWorth 5 = .ok (.iconst 5, 1) := by decide +kernel
theorem dX1_askWorth_6 : decode cX1_askWorth 6 = .ok (.invokevirtual 15, 3) := by decide +kernel
theorem dX1_askWorth_9 : decode cX1_askWorth 9 = .ok (.iconst 2, 1) := by decide +kernel
theorem dX1_askWorth_10 : decode cX1_askWorth 10 = .ok (.aload_n 0, 1) := by decide +kernel
theorem dX1_askWorth_11 : decode cX1_askWorth 11 = .ok (.invokespecial 43, 3) := by decide +kernel
theorem dX1_askWorth_14 : decode cX1_askWorth 14 = .ok (.imul, 1) := by decide +kernel
theorem dX1_askWorth_15 : decode cX1_askWorth 15 = .ok (.ireturn, 1) := by decide +kernel
theorem dX2_init_0 : decode cX2_init 0 = .ok (.aload_n 0, 1) := by decide +kernel
theorem dX2_init_1 : decode cX2_init 1 = .ok (.invokespecial 3, 3) := by decide +kernel
theorem dX2_init_4 : decode cX2_init 4 = .ok (.aload_n 0, 1) := by decide +kernel
theorem dX2_init_5 : decode cX2_init 5 = .ok (.iconst 0, 1) := by decide +kernel
theorem dX2_init_6 : decode cX2_init 6 = .ok (.putfield 9, 3) := by decide +kernel
theorem dX2_init_9 : decode cX2_init 9 = .ok (.aload_n 0, 1) := by decide +kernel
theorem dX2_init_10 : decode cX2_init 10 = .ok (.iconst 0, 1) := by decide +kernel
theorem dX2_init_11 : decode cX2_init 11 = .ok (.putfield 15, 3) := by decide +kernel
theorem dX2_init_14 : decode cX2_init 14 = .ok (.aload_n 0, 1) := by decide +kernel
theorem dX2_init_15 : decode cX2_init 15 = .ok (.iconst 0, 1) := by decide +kernel
theorem dX2_init_16 : decode cX2_init 16 = .ok (.putfield 18, 3) := by decide +kernel
theorem dX2_init_19 : decode cX2_init 19 = .ok (.aload_n 0, 1) := by decide +kernel
theorem dX2_init_20 : decode cX2_init 20 = .ok (.iconst 0, 1) := by decide +kernel
theorem dX2_init_21 : decode cX2_init 21 = .ok (.putfield 21, 3) := by decide +kernel
theorem dX2_init_24 : decode cX2_init 24 = .ok (.aload_n 0, 1) := by decide +kernel
theorem dX2_init_25 : decode cX2_init 25 = .ok (.aload_n 1, 1) := by decide +kernel
theorem dX2_init_26 : decode cX2_init 26 = .ok (.putfield 24, 3) := by decide +kernel
theorem dX2_init_29 : decode cX2_init 29 = .ok (.aload_n 0, 1) := by decide +kernel
theorem dX2_init_30 : decode cX2_init 30 = .ok (.iload_n 2, 1) := by decide +kernel
theorem dX2_init_31 : decode cX2_init 31 = .ok (.putfield 28, 3) := by decide +kernel
theorem dX2_init_34 : decode cX2_init 34 = .ok (.aload_n 0, 1) := by decide +kernel
theorem dX2_init_35 : decode cX2_init 35 = .ok (.iload_n 3, 1) := by decide +kernel
theorem dX2_init_36 : decode cX2_init 36 = .ok (.putfield 31, 3) := by decide +kernel
theorem dX2_init_39 : decode cX2_init 39 = .ok (.aload_n 0, 1) := by decide +kernel
theorem dX2_init_40 : decode cX2_init 40 = .ok (.iload 4, 2) := by decide +kernel
theorem dX2_init_42 : decode cX2_init 42 = .ok (.putfield 34, 3) := by decide +kernel
theorem dX2_init_45 : decode cX2_init 45 = .ok (.return_, 1) := by decide +kernel
theorem dX2_doRest_0 : decode cX2_doRest 0 = .ok (.aload_n 0, 1) := by decide +kernel
theorem dX2_doRest_1 : decode cX2_doRest 1 = .ok (.getfield 24, 3) := by decide +kernel
theorem dX2_doRest_4 : decode cX2_doRest 4 = .ok (.iconst 0, 1) := by decide +kernel
theorem dX2_doRest_5 : decode cX2_doRest 5 = .ok (.iconst 0, 1) := by decide +kernel
theorem dX2_doRest_6 : decode cX2_doRest 6 = .ok (.invokevirtual 37, 3) := by decide +kernel
theorem dX2_doRest_9 : decode cX2_doRest 9 = .ok (.aload_n 0, 1) := by decide +kernel
theorem dX2_doRest_10 : decode cX2_doRest 10 = .ok (.aload_n 0, 1) := by decide +kernel
theorem dX2_doRest_11 : decode cX2_doRest 11 = .ok (.getfield 9, 3) := by decide +kernel
theorem dX2_doRest_14 : decode cX2_doRest 14 = .ok (.iload_n 1, 1) := by decide +kernel
theorem dX2_doRest_15 : decode cX2_doRest 15 = .ok (.bipush 6, 2) := by decide +kernel
theorem dX2_doRest_17 : decode cX2_doRest 17 = .ok (.idiv, 1) := by decide +kernel
theorem dX2_doRest_18 : decode cX2_doRest 18 = .ok (.iadd, 1) := by decide +kernel
theorem dX2_doRest_19 : decode cX2_doRest 19 = .ok (.bipush 100, 2) := by decide +kernel
theorem dX2_doRest_21 : decode cX2_doRest 21 = .ok (.invokestatic 43, 3) := by decide +kernel
theorem dX2_doRest_24 : decode cX2_doRest 24 = .ok (.putfield 9, 3) := by decide +kernel
theorem dX2_doRest_27 : decode cX2_doRest 27 = .ok (.aload_n 0, 1) := by decide +kernel
theorem dX2_doRest_28 : decode cX2_doRest 28 = .ok (.getfield 9, 3) := by decide +kernel
theorem dX2_doRest_31 : decode cX2_doRest 31 = .ok (.ireturn, 1) := by decide +kernel
theorem dX2_doFold_0 : decode cX2_doFold 0 = .ok (.aload_n 0, 1) := by decide +kernel
theorem dX2_doFold_1 : decode cX2_doFold 1 = .ok (.getfield 24, 3) := by decide +kernel
theorem dX2_doFold_4 : decode cX2_doFold 4 = .ok (.iconst 1, 1) := by decide +kernel
theorem dX2_doFold_5 : decode cX2_doFold 5 = .ok (.iconst 0, 1) := by decide +kernel
theorem dX2_doFold_6 : decode cX2_doFold 6 = .ok (.invokevirtual 37, 3) := by decide +kernel
theorem dX2_doFold_9 : decode cX2_doFold 9 = .ok (.aload_n 0, 1) := by decide +kernel
theorem dX2_doFold_10 : decode cX2_doFold 10 = .ok (.aload_n 0, 1) := by decide +kernel
theorem dX2_doFold_11 : decode cX2_doFold 11 = .ok (.getfield 9, 3) := by decide +kernel
theorem dX2_doFold_14 : decode cX2_doFold 14 = .ok (.iconst 2, 1) := by decide +kernel
theorem dX2_doFold_15 : decode cX2_doFold 15 = .ok (.idiv, 1) := by decide +kernel
theorem dX2_doFold_16 : decode cX2_doFold 16 = .ok (.putfield 9, 3) := by decide +kernel
theorem dX2_doFold_19 : decode cX2_doFold 19 = .ok (.aload_n 0, 1) := by decide +kernel
theorem dX2_doFold_20 : decode cX2_doFold 20 = .ok (.dup, 1) := by decide +kernel
theorem dX2_doFold_21 : decode cX2_doFold 21 = .ok (.getfield 15, 3) := by decide +kernel
theorem dX2_doFold_24 : decode cX2_doFold 24 = .ok (.iconst 1, 1) := by decide +kernel
theorem dX2_doFold_25 : decode cX2_doFold 25 = .ok (.iadd, 1) := by decide +kernel
theorem dX2_doFold_26 : decode cX2_doFold 26 = .ok (.putfield 15, 3) := by decide +kernel
theorem dX2_doFold_29 : decode cX2_doFold 29 = .ok (.return_, 1) := by decide +kernel
theorem dX2_doLay_0 : decode cX2_doLay 0 = .ok (.aload_n 0, 1) := by decide +kernel
theorem dX2_doLay_1 : decode cX2_doLay 1 = .ok (.getfield 24, 3) := by decide +kernel
theorem dX2_doLay_4 : decode cX2_doLay 4 = .ok (.iconst 2, 1) := by decide +kernel
theorem dX2_doLay_5 : decode cX2_doLay 5 = .ok (.iconst 0, 1) := by decide +kernel
theorem dX2_doLay_6 : decode cX2_doLay 6 = .ok (.invokevirtual 37, 3) := by decide +kernel
theorem dX2_doLay_9 : decode cX2_doLay 9 = .ok (.aload_n 1, 1) := by decide +kernel
theorem dX2_doLay_10 : decode cX2_doLay 10 = .ok (.invokevirtual 49, 3) := by decide +kernel
theorem dX2_doLay_13 : decode cX2_doLay 13 = .ok (.ifCond .eq 26, 3) := by decide +kernel
theorem dX2_doLay_16 : decode cX2_doLay 16 = .ok (.aload_n 0, 1) := by decide +kernel
theorem dX2_doLay_17 : decode cX2_doLay 17 = .ok (.getfield 24, 3) := by decide +kernel
theorem dX2_doLay_20 : decode cX2_doLay 20 = .ok (.dup, 1) := by decide +kernel
theorem dX2_doLay_21 : decode cX2_doLay 21 = .ok (.getfield 55, 3) := by decide +kernel
theorem dX2_doLay_24 : decode cX2_doLay 24 = .ok (.iconst 1, 1) := by decide +kernel
theorem dX2_doLay_25 : decode cX2_doLay 25 = .ok (.iadd, 1) := by decide +kernel
theorem dX2_doLay_26 : decode cX2_doLay 26 = .ok (.putfield 55, 3) := by decide +kernel
theorem dX2_doLay_29 : decode cX2_doLay 29 = .ok (.new 58, 3) := by decide +kernel
theorem dX2_doLay_32 : decode cX2_doLay 32 = .ok (.dup, 1) := by decide +kernel
theorem dX2_doLay_33 : decode cX2_doLay 33 = .ok (.ldc 60, 2) := by decide +kernel
theorem dX2_doLay_35 : decode cX2_doLay 35 = .ok (.invokespecial 62, 3) := by decide +kernel
theorem dX2_doLay_38 : decode cX2_doLay 38 = .ok (.athrow, 1) := by decide +kernel
theorem dX2_doLay_39 : decode cX2_doLay 39 = .ok (.aload_n 1, 1) := by decide +kernel
theorem dX2_doLay_40 : decode cX2_doLay 40 = .ok (.iload_n 2, 1) := by decide +kernel
theorem dX2_doLay_41 : decode cX2_doLay 41 = .ok (.invokevirtual 65, 3) := by decide +kernel
theorem dX2_doLay_44 : decode cX2_doLay 44 = .ok (.ifCond .ne 26, 3) := by decide +kernel
theorem dX2_doLay_47 : decode cX2_doLay 47 = .ok (.aload_n 0, 1) := by decide +kernel
theorem dX2_doLay_48 : decode cX2_doLay 48 = .ok (.getfield 24, 3) := by decide +kernel
theorem dX2_doLay_51 : decode cX2_doLay 51 = .ok (.dup, 1) := by decide +kernel
theorem dX2_doLay_52 : decode cX2_doLay 52 = .ok (.getfield 55, 3) := by decide +kernel
theorem dX2_doLay_55 : decode cX2_doLay 55 = .ok (.iconst 1, 1) := by decide +kernel
theorem dX2_doLay_56 : decode cX2_doLay 56 = .ok (.iadd, 1) := by decide +kernel
theorem dX2_doLay_57 : decode cX2_doLay 57 = .ok (.putfield 55, 3) := by decide +kernel
theorem dX2_doLay_60 : decode cX2_doLay 60 = .ok (.new 69, 3) := by decide +kernel
theorem dX2_doLay_63 : decode cX2_doLay 63 = .ok (.dup, 1) := by decide +kernel
theorem dX2_doLay_64 : decode cX2_doLay 64 = .ok (.ldc 71, 2) := by decide +kernel
theorem dX2_doLay_66 : decode cX2_doLay 66 = .ok (.invokespecial 73, 3) := by decide +kernel
theorem dX2_doLay_69 : decode cX2_doLay 69 = .ok (.athrow, 1) := by decide +kernel
theorem dX2_doLay_70 : decode cX2_doLay 70 = .ok (.aload_n 1, 1) := by decide +kernel
theorem dX2_doLay_71 : decode cX2_doLay 71 = .ok (.iload_n 2, 1) := by decide +kernel
theorem dX2_doLay_72 : decode cX2_doLay 72 = .ok (.aload_n 0, 1) := by decide +kernel
theorem dX2_doLay_73 : decode cX2_doLay 73 = .ok (.getfield 28, 3) := by decide +kernel
theorem dX2_doLay_76 : decode cX2_doLay 76 = .ok (.invokevirtual 74, 3) := by decide +kernel
theorem dX2_doLay_79 : decode cX2_doLay 79 = .ok (.return_, 1) := by decide +kernel
theorem dX2_doBake_0 : decode cX2_doBake 0 = .ok (.aload_n 0, 1) := by decide +kernel
theorem dX2_doBake_1 : decode cX2_doBake 1 = .ok (.getfield 24, 3) := by decide +kernel
theorem dX2_doBake_4 : decode cX2_doBake 4 = .ok (.iconst 3, 1) := by decide +kernel
theorem dX2_doBake_5 : decode cX2_doBake 5 = .ok (.iconst 0, 1) := by decide +kernel
theorem dX2_doBake_6 : decode cX2_doBake 6 = .ok (.invokevirtual 37, 3) := by decide +kernel
theorem dX2_doBake_9 : decode cX2_doBake 9 = .ok (.aload_n 0, 1) := by decide +kernel
theorem dX2_doBake_10 : decode cX2_doBake 10 = .ok (.dup, 1) := by decide +kernel
theorem dX2_doBake_11 : decode cX2_doBake 11 = .ok (.getfield 21, 3) := by decide +kernel
theorem dX2_doBake_14 : decode cX2_doBake 14 = .ok (.iload_n 1, 1) := by decide +kernel
theorem dX2_doBake_15 : decode cX2_doBake 15 = .ok (.aload_n 0, 1) := by decide +kernel
theorem dX2_doBake_16 : decode cX2_doBake 16 = .ok (.getfield 9, 3) := by decide +kernel
theorem dX2_doBake_19 : decode cX2_doBake 19 = .ok (.iadd, 1) := by decide +kernel
theorem dX2_doBake_20 : decode cX2_doBake 20 = .ok (.bipush 10, 2) := by decide +kernel
theorem dX2_doBake_22 : decode cX2_doBake 22 = .ok (.idiv, 1) := by decide +kernel
theorem dX2_doBake_23 : decode cX2_doBake 23 = .ok (.iadd, 1) := by decide +kernel
theorem dX2_doBake_24 : decode cX2_doBake 24 = .ok (.putfield 21, 3) := by decide +kernel
theorem dX2_doBake_27 : decode cX2_doBake 27 = .ok (.aload_n 0, 1) := by decide +kernel
theorem dX2_doBake_28 : decode cX2_doBake 28 = .ok (.invokevirtual 77, 3) := by decide +kernel
theorem dX2_doBake_31 : decode cX2_doBake 31 = .ok (.ireturn, 1) := by decide +kernel
theorem dX2_askWorth_0 : decode cX2_askWorth 0 = .ok (.aload_n 0, 1) := by decide +kernel
theorem dX2_askWorth_1 : decode cX2_askWorth 1 = .ok (.getfield 24, 3) := by decide +kernel
theorem dX2_askWorth_4 : decode cX2_askWorth 4 = .ok (.iconst 4, 1) := by decide +kernel
theorem dX2_askWorth_5 : decode cX2_askWorth 5 = .ok (.iconst 0, 1) := by decide +kernel
theorem dX2_askWorth_6 : decode cX2_askWorth 6 = .ok (.invokevirtual 37, 3) := by decide +kernel
theorem dX2_askWorth_9 : decode cX2_askWorth 9 = .ok (.aload_n 0, 1) := by decide +kernel
theorem dX2_askWorth_10 : decode cX2_askWorth 10 = .ok (.getfield 34, 3) := by decide +kernel
theorem dX2_askWorth_13 : decode cX2_askWorth 13 = .ok (.bipush 10, 2) := by decide +kernel
theorem dX2_askWorth_15 : decode cX2_askWorth 15 = .ok (.idiv, 1) := by decide +kernel
theorem dX2_askWorth_16 : decode cX2_askWorth 16 = .ok (.iconst 2, 1) := by decide +kernel
theorem dX2_askWorth_17 : decode cX2_askWorth 17 = .ok (.aload_n 0, 1) := by decide +kernel
theorem dX2_askWorth_18 : decode cX2_askWorth 18 = .ok (.getfield 15, 3) := by decide +kernel
theorem dX2_askWorth_21 : decode cX2_askWorth 21 = .ok (.imul, 1) := by decide +kernel
theorem dX2_askWorth_22 : decode cX2_askWorth 22 = .ok (.iadd, 1) := by decide +kernel
theorem dX2_askWorth_23 : decode cX2_askWorth 23 = .ok (.ireturn, 1) := by decide +kernel
theorem dX2_isDoneByCrust_0 : decode cX2_isDoneByCrust 0 = .ok (.aload_n 0, 1) := by decide +kernel
theorem dX2_isDoneByCrust_1 : decode cX2_isDoneByCrust 1 = .ok (.getfield 21, 3) := by decide +kernel
theorem dX2_isDoneByCrust_4 : decode cX2_isDoneByCrust 4 = .ok (.bipush 20, 2) := by decide +kernel
theorem dX2_isDoneByCrust_6 : decode cX2_isDoneByCrust 6 = .ok (.if_icmp .lt 7, 3) := by decide +kernel
theorem dX2_isDoneByCrust_9 : decode cX2_isDoneByCrust 9 = .ok (.iconst 1, 1) := by decide +kernel
theorem dX2_isDoneByCrust_10 : decode cX2_isDoneByCrust 10 = .ok (.goto 4, 3) := by decide +kernel
theorem dX2_isDoneByCrust_13 : decode cX2_isDoneByCrust 13 = .ok (.iconst 0, 1) := by decide +kernel
theorem dX2_isDoneByCrust_14 : decode cX2_isDoneByCrust 14 = .ok (.ireturn, 1) := by decide +kernel
theorem dX3_init_0 : decode cX3_init 0 = .ok (.aload_n 0, 1) := by decide +kernel
theorem dX3_init_1 : decode cX3_init 1 = .ok (.aload_n 1, 1) := by decide +kernel
theorem dX3_init_2 : decode cX3_init 2 = .ok (.iload_n 2, 1) := by decide +kernel
theorem dX3_init_3 : decode cX3_init 3 = .ok (.iload_n 3, 1) := by decide +kernel
theorem dX3_init_4 : decode cX3_init 4 = .ok (.iload 4, 2) := by decide +kernel
theorem dX3_init_6 : decode cX3_init 6 = .ok (.invokespecial 3, 3) := by decide +kernel
theorem dX3_init_9 : decode cX3_init 9 = .ok (.return_, 1) := by decide +kernel
theorem dX3_doFold_0 : decode cX3_doFold 0 = .ok (.aload_n 0, 1) := by decide +kernel
theorem dX3_doFold_1 : decode cX3_doFold 1 = .ok (.getfield 9, 3) := by decide +kernel
theorem dX3_doFold_4 : decode cX3_doFold 4 = .ok (.iconst 1, 1) := by decide +kernel
theorem dX3_doFold_5 : decode cX3_doFold 5 = .ok (.bipush 6, 2) := by decide +kernel
theorem dX3_doFold_7 : decode cX3_doFold 7 = .ok (.invokevirtual 15, 3) := by decide +kernel
theorem dX3_doFold_10 : decode cX3_doFold 10 = .ok (.aload_n 0, 1) := by decide +kernel
theorem dX3_doFold_11 : decode cX3_doFold 11 = .ok (.dup, 1) := by decide +kernel
theorem dX3_doFold_12 : decode cX3_doFold 12 = .ok (.getfield 21, 3) := by decide +kernel
theorem dX3_doFold_15 : decode cX3_doFold 15 = .ok (.iconst 1, 1) := by decide +kernel
theorem dX3_doFold_16 : decode cX3_doFold 16 = .ok (.iadd, 1) := by decide +kernel
theorem dX3_doFold_17 : decode cX3_doFold 17 = .ok (.putfield 21, 3) := by decide +kernel
theorem dX3_doFold_20 : decode cX3_doFold 20 = .ok (.return_, 1) := by decide +kernel
theorem dX3_doLay_0 : decode cX3_doLay 0 = .ok (.aload_n 0, 1) := by decide +kernel
theorem dX3_doLay_1 : decode cX3_doLay 1 = .ok (.getfield 9, 3) := by decide +kernel
theorem dX3_doLay_4 : decode cX3_doLay 4 = .ok (.iconst 2, 1) := by decide +kernel
theorem dX3_doLay_5 : decode cX3_doLay 5 = .ok (.bipush 6, 2) := by decide +kernel
theorem dX3_doLay_7 : decode cX3_doLay 7 = .ok (.invokevirtual 15, 3) := by decide +kernel
theorem dX3_doLay_10 : decode cX3_doLay 10 = .ok (.aload_n 0, 1) := by decide +kernel
theorem dX3_doLay_11 : decode cX3_doLay 11 = .ok (.aload_n 1, 1) := by decide +kernel
theorem dX3_doLay_12 : decode cX3_doLay 12 = .ok (.iload_n 2, 1) := by decide +kernel
theorem dX3_doLay_13 : decode cX3_doLay 13 = .ok (.iconst 2, 1) := by decide +kernel
theorem dX3_doLay_14 : decode cX3_doLay 14 = .ok (.idiv, 1) := by decide +kernel
theorem dX3_doLay_15 : decode cX3_doLay 15 = .ok (.invokespecial 25, 3) := by decide +kernel
theorem dX3_doLay_18 : decode cX3_doLay 18 = .ok (.return_, 1) := by decide +kernel
theorem dX3_doBake_0 : decode cX3_doBake 0 = .ok (.aload_n 0, 1) := by decide +kernel
theorem dX3_doBake_1 : decode cX3_doBake 1 = .ok (.getfield 9, 3) := by decide +kernel
theorem dX3_doBake_4 : decode cX3_doBake 4 = .ok (.iconst 3, 1) := by decide +kernel
theorem dX3_doBake_5 : decode cX3_doBake 5 = .ok (.bipush 6, 2) := by decide +kernel
theorem dX3_doBake_7 : decode cX3_doBake 7 = .ok (.invokevirtual 15, 3) := by decide +kernel
theorem dX3_doBake_10 : decode cX3_doBake 10 = .ok (.aload_n 0, 1) := by decide +kernel
theorem dX3_doBake_11 : decode cX3_doBake 11 = .ok (.iconst 2, 1) := by decide +kernel
theorem dX3_doBake_12 : decode cX3_doBake 12 = .ok (.iload_n 1, 1) := by decide +kernel
theorem dX3_doBake_13 : decode cX3_doBake 13 = .ok (.imul, 1) := by decide +kernel
theorem dX3_doBake_14 : decode cX3_doBake 14 = .ok (.invokespecial 29, 3) := by decide +kernel
theorem dX3_doBake_17 : decode cX3_doBake 17 = .ok (.ireturn, 1) := by decide +kernel
theorem dX3_askWorth_0 : decode cX3_askWorth 0 = .ok (.aload_n 0, 1) := by decide +kernel
theorem dX3_askWorth_1 : decode cX3_askWorth 1 = .ok (.getfield 9, 3) := by decide +kernel
theorem dX3_askWorth_4 : decode cX3_askWorth 4 = .ok (.iconst 4, 1) := by decide +kernel
theorem dX3_askWorth_5 : decode cX3_askWorth 5 = .ok (.bipush 6, 2) := by decide +kernel
theorem dX3_askWorth_7 : decode cX3_askWorth 7 = .ok (.invokevirtual 15, 3) := by decide +kernel
theorem dX3_askWorth_10 : decode cX3_askWorth 10 = .ok (.aload_n 0, 1) := by decide +kernel
theorem dX3_askWorth_11 : decode cX3_askWorth 11 = .ok (.getfield 33, 3) := by decide +kernel
theorem dX3_askWorth_14 : decode cX3_askWorth 14 = .ok (.ifCond .ne 26, 3) := by decide +kernel
theorem dX3_askWorth_17 : decode cX3_askWorth 17 = .ok (.aload_n 0, 1) := by decide +kernel
theorem dX3_askWorth_18 : decode cX3_askWorth 18 = .ok (.getfield 9, 3) := by decide +kernel
theorem dX3_askWorth_21 : decode cX3_askWorth 21 = .ok (.dup, 1) := by decide +kernel
theorem dX3_askWorth_22 : decode cX3_askWorth 22 = .ok (.getfield 36, 3) := by decide +kernel
theorem dX3_askWorth_25 : decode cX3_askWorth 25 = .ok (.iconst 1, 1) := by decide +kernel
theorem dX3_askWorth_26 : decode cX3_askWorth 26 = .ok (.iadd, 1) := by decide +kernel
theorem dX3_askWorth_27 : decode cX3_askWorth 27 = .ok (.putfield 36, 3) := by decide +kernel
theorem dX3_askWorth_30 : decode cX3_askWorth 30 = .ok (.new 39, 3) := by decide +kernel
theorem dX3_askWorth_33 : decode cX3_askWorth 33 = .ok (.dup, 1) := by decide +kernel
theorem dX3_askWorth_34 : decode cX3_askWorth 34 = .ok (.ldc 41, 2) := by decide +kernel
theorem dX3_askWorth_36 : decode cX3_askWorth 36 = .ok (.invokespecial 43, 3) := by decide +kernel
theorem dX3_askWorth_39 : decode cX3_askWorth 39 = .ok (.athrow, 1) := by decide +kernel
theorem dX3_askWorth_40 : decode cX3_askWorth 40 = .ok (.sipush 1000, 3) := by decide +kernel
theorem dX3_askWorth_43 : decode cX3_askWorth 43 = .ok (.aload_n 0, 1) := by decide +kernel
theorem dX3_askWorth_44 : decode cX3_askWorth 44 = .ok (.getfield 33, 3) := by decide +kernel
theorem dX3_askWorth_47 : decode cX3_askWorth 47 = .ok (.idiv, 1) := by decide +kernel
theorem dX3_askWorth_48 : decode cX3_askWorth 48 = .ok (.ireturn, 1) := by decide +kernel
theorem dX4_init_0 : decode cX4_init 0 = .ok (.aload_n 0, 1) := by decide +kernel
theorem dX4_init_1 : decode cX4_init 1 = .ok (.aload_n 1, 1) := by decide +kernel
theorem dX4_init_2 : decode cX4_init 2 = .ok (.iload_n 2, 1) := by decide +kernel
theorem dX4_init_3 : decode cX4_init 3 = .ok (.iload_n 3, 1) := by decide +kernel
theorem dX4_init_4 : decode cX4_init 4 = .ok (.iload 4, 2) := by decide +kernel
theorem dX4_init_6 : decode cX4_init 6 = .ok (.invokespecial 1, 3) := by decide +kernel
theorem dX4_init_9 : decode cX4_init 9 = .ok (.return_, 1) := by decide +kernel
theorem dX5_init_0 : decode cX5_init 0 = .ok (.aload_n 0, 1) := by decide +kernel
theorem dX5_init_1 : decode cX5_init 1 = .ok (.aload_n 1, 1) := by decide +kernel
theorem dX5_init_2 : decode cX5_init 2 = .ok (.iload_n 2, 1) := by decide +kernel
theorem dX5_init_3 : decode cX5_init 3 = .ok (.iload_n 3, 1) := by decide +kernel
theorem dX5_init_4 : decode cX5_init 4 = .ok (.iload 4, 2) := by decide +kernel
theorem dX5_init_6 : decode cX5_init 6 = .ok (.invokespecial 3, 3) := by decide +kernel
theorem dX5_init_9 : decode cX5_init 9 = .ok (.return_, 1) := by decide +kernel
theorem dX5_doRest_0 : decode cX5_doRest 0 = .ok (.aload_n 0, 1) := by decide +kernel
theorem dX5_doRest_1 : decode cX5_doRest 1 = .ok (.getfield 9, 3) := by decide +kernel
theorem dX5_doRest_4 : decode cX5_doRest 4 = .ok (.iconst 0, 1) := by decide +kernel
theorem dX5_doRest_5 : decode cX5_doRest 5 = .ok (.bipush 7, 2) := by decide +kernel
theorem dX5_doRest_7 : decode cX5_doRest 7 = .ok (.invokevirtual 15, 3) := by decide +kernel
theorem dX5_doRest_10 : decode cX5_doRest 10 = .ok (.aload_n 0, 1) := by decide +kernel
theorem dX5_doRest_11 : decode cX5_doRest 11 = .ok (.iload_n 1, 1) := by decide +kernel
theorem dX5_doRest_12 : decode cX5_doRest 12 = .ok (.aload_n 0, 1) := by decide +kernel
theorem dX5_doRest_13 : decode cX5_doRest 13 = .ok (.getfield 21, 3) := by decide +kernel
theorem dX5_doRest_16 : decode cX5_doRest 16 = .ok (.iadd, 1) := by decide +kernel
theorem dX5_doRest_17 : decode cX5_doRest 17 = .ok (.invokespecial 25, 3) := by decide +kernel
theorem dX5_doRest_20 : decode cX5_doRest 20 = .ok (.ireturn, 1) := by decide +kernel
theorem dX5_doLay_0 : decode cX5_doLay 0 = .ok (.aload_n 0, 1) := by decide +kernel
theorem dX5_doLay_1 : decode cX5_doLay 1 = .ok (.getfield 9, 3) := by decide +kernel
theorem dX5_doLay_4 : decode cX5_doLay 4 = .ok (.iconst 2, 1) := by decide +kernel
theorem dX5_doLay_5 : decode cX5_doLay 5 = .ok (.bipush 7, 2) := by decide +kernel
theorem dX5_doLay_7 : decode cX5_doLay 7 = .ok (.invokevirtual 15, 3) := by decide +kernel
theorem dX5_doLay_10 : decode cX5_doLay 10 = .ok (.aload_n 0, 1) := by decide +kernel
theorem dX5_doLay_11 : decode cX5_doLay 11 = .ok (.invokevirtual 29, 3) := by decide +kernel
theorem dX5_doLay_14 : decode cX5_doLay 14 = .ok (.aload_n 0, 1) := by decide +kernel
theorem dX5_doLay_15 : decode cX5_doLay 15 = .ok (.aload_n 1, 1) := by decide +kernel
theorem dX5_doLay_16 : decode cX5_doLay 16 = .ok (.iload_n 2, 1) := by decide +kernel
theorem dX5_doLay_17 : decode cX5_doLay 17 = .ok (.invokespecial 33, 3) := by decide +kernel
theorem dX5_doLay_20 : decode cX5_doLay 20 = .ok (.return_, 1) := by decide +kernel
theorem dX5_askWorth_0 : decode cX5_askWorth 0 = .ok (.aload_n 0, 1) := by decide +kernel
theorem dX5_askWorth_1 : decode cX5_askWorth 1 = .ok (.getfield 9, 3) := by decide +kernel
theorem dX5_askWorth_4 : decode cX5_askWorth 4 = .ok (.iconst 4, 1) := by decide +kernel
theorem dX5_askWorth_5 : decode cX5_askWorth 5 = .ok (.bipush 7, 2) := by decide +kernel
theorem dX5_askWorth_7 : decode cX5_askWorth 7 = .ok (.invokevirtual 15, 3) := by decide +kernel
theorem dX5_askWorth_10 : decode cX5_askWorth 10 = .ok (.aload_n 0, 1) := by decide +kernel
theorem dX5_askWorth_11 : decode cX5_askWorth 11 = .ok (.invokevirtual 37, 3) := by decide +kernel
theorem dX5_askWorth_14 : decode cX5_askWorth 14 = .ok (.ifCond .eq 7, 3) := by decide +kernel
theorem dX5_askWorth_17 : decode cX5_askWorth 17 = .ok (.iconst 5, 1) := by decide +kernel
theorem dX5_askWorth_18 : decode cX5_askWorth 18 = .ok (.goto 4, 3) := by decide +kernel
theorem dX5_askWorth_21 : decode cX5_askWorth 21 = .ok (.iconst 0, 1) := by decide +kernel
theorem dX5_askWorth_22 : decode cX5_askWorth 22 = .ok (.istore_n 1, 1) := by decide +kernel
theorem dX5_askWorth_23 : decode cX5_askWorth 23 = .ok (.aload_n 0, 1) := by decide +kernel
theorem dX5_askWorth_24 : decode cX5_askWorth 24 = .ok (.invokespecial 41, 3) := by decide +kernel
theorem dX5_askWorth_27 : decode cX5_askWorth 27 = .ok (.iload_n 1, 1) := by decide +kernel
theorem dX5_askWorth_28 : decode cX5_askWorth 28 = .ok (.iadd, 1) := by decide +kernel
theorem dX5_askWorth_29 : decode cX5_askWorth 29 = .ok (.ireturn, 1) := by decide +kernel
theorem dX6_init_0 : decode cX6_init 0 = .ok (.aload_n 0, 1) := by decide +kernel
theorem dX6_init_1 : decode cX6_init 1 = .ok (.aload_n 1, 1) := by decide +kernel
theorem dX6_init_2 : decode cX6_init 2 = .ok (.iload_n 2, 1) := by decide +kernel
theorem dX6_init_3 : decode cX6_init 3 = .ok (.iload_n 3, 1) := by decide +kernel
theorem dX6_init_4 : decode cX6_init 4 = .ok (.iload 4, 2) := by decide +kernel
theorem dX6_init_6 : decode cX6_init 6 = .ok (.invokespecial 3, 3) := by decide +kernel
theorem dX6_init_9 : decode cX6_init 9 = .ok (.return_, 1) := by decide +kernel
theorem dX6_doRest_0 : decode cX6_doRest 0 = .ok (.aload_n 0, 1) := by decide +kernel
theorem dX6_doRest_1 : decode cX6_doRest 1 = .ok (.getfield 9, 3) := by decide +kernel
theorem dX6_doRest_4 : decode cX6_doRest 4 = .ok (.iconst 0, 1) := by decide +kernel
theorem dX6_doRest_5 : decode cX6_doRest 5 = .ok (.iconst 2, 1) := by decide +kernel
theorem dX6_doRest_6 : decode cX6_doRest 6 = .ok (.invokevirtual 15, 3) := by decide +kernel
theorem dX6_doRest_9 : decode cX6_doRest 9 = .ok (.aload_n 0, 1) := by decide +kernel
theorem dX6_doRest_10 : decode cX6_doRest 10 = .ok (.iload_n 1, 1) := by decide +kernel
theorem dX6_doRest_11 : decode cX6_doRest 11 = .ok (.iconst 2, 1) := by decide +kernel
theorem dX6_doRest_12 : decode cX6_doRest 12 = .ok (.idiv, 1) := by decide +kernel
theorem dX6_doRest_13 : decode cX6_doRest 13 = .ok (.invokespecial 21, 3) := by decide +kernel
theorem dX6_doRest_16 : decode cX6_doRest 16 = .ok (.ireturn, 1) := by decide +kernel
theorem dX6_doBake_0 : decode cX6_doBake 0 = .ok (.aload_n 0, 1) := by decide +kernel
theorem dX6_doBake_1 : decode cX6_doBake 1 = .ok (.getfield 9, 3) := by decide +kernel
theorem dX6_doBake_4 : decode cX6_doBake 4 = .ok (.iconst 3, 1) := by decide +kernel
theorem dX6_doBake_5 : decode cX6_doBake 5 = .ok (.iconst 2, 1) := by decide +kernel
theorem dX6_doBake_6 : decode cX6_doBake 6 = .ok (.invokevirtual 15, 3) := by decide +kernel
theorem dX6_doBake_9 : decode cX6_doBake 9 = .ok (.aload_n 0, 1) := by decide +kernel
theorem dX6_doBake_10 : decode cX6_doBake 10 = .ok (.iload_n 1, 1) := by decide +kernel
theorem dX6_doBake_11 : decode cX6_doBake 11 = .ok (.bipush 30, 2) := by decide +kernel
theorem dX6_doBake_13 : decode cX6_doBake 13 = .ok (.isub, 1) := by decide +kernel
theorem dX6_doBake_14 : decode cX6_doBake 14 = .ok (.invokespecial 25, 3) := by decide +kernel
theorem dX6_doBake_17 : decode cX6_doBake 17 = .ok (.ireturn, 1) := by decide +kernel
theorem dX7_init_0 : decode cX7_init 0 = .ok (.aload_n 0, 1) := by decide +kernel
theorem dX7_init_1 : decode cX7_init 1 = .ok (.invokespecial 3, 3) := by decide +kernel
theorem dX7_init_4 : decode cX7_init 4 = .ok (.aload_n 0, 1) := by decide +kernel
theorem dX7_init_5 : decode cX7_init 5 = .ok (.bipush 8, 2) := by decide +kernel
theorem dX7_init_7 : decode cX7_init 7 = .ok (.newarray .int, 2) := by decide +kernel
theorem dX7_init_9 : decode cX7_init 9 = .ok (.putfield 9, 3) := by decide +kernel
theorem dX7_init_12 : decode cX7_init 12 = .ok (.aload_n 0, 1) := by decide +kernel
theorem dX7_init_13 : decode cX7_init 13 = .ok (.iconst (-1), 1) := by decide +kernel
theorem dX7_init_14 : decode cX7_init 14 = .ok (.putfield 15, 3) := by decide +kernel
theorem dX7_init_17 : decode cX7_init 17 = .ok (.return_, 1) := by decide +kernel
theorem dX7_isOut_0 : decode cX7_isOut 0 = .ok (.aload_n 0, 1) := by decide +kernel
theorem dX7_isOut_1 : decode cX7_isOut 1 = .ok (.getfield 15, 3) := by decide +kernel
theorem dX7_isOut_4 : decode cX7_isOut 4 = .ok (.iconst (-1), 1) := by decide +kernel
theorem dX7_isOut_5 : decode cX7_isOut 5 = .ok (.if_icmp .ne 7, 3) := by decide +kernel
theorem dX7_isOut_8 : decode cX7_isOut 8 = .ok (.iconst 1, 1) := by decide +kernel
theorem dX7_isOut_9 : decode cX7_isOut 9 = .ok (.goto 4, 3) := by decide +kernel
theorem dX7_isOut_12 : decode cX7_isOut 12 = .ok (.iconst 0, 1) := by decide +kernel
theorem dX7_isOut_13 : decode cX7_isOut 13 = .ok (.ireturn, 1) := by decide +kernel
theorem dX7_bringIn_0 : decode cX7_bringIn 0 = .ok (.aload_n 0, 1) := by decide +kernel
theorem dX7_bringIn_1 : decode cX7_bringIn 1 = .ok (.iload_n 1, 1) := by decide +kernel
theorem dX7_bringIn_2 : decode cX7_bringIn 2 = .ok (.putfield 15, 3) := by decide +kernel
theorem dX7_bringIn_5 : decode cX7_bringIn 5 = .ok (.iconst 0, 1) := by decide +kernel
theorem dX7_bringIn_6 : decode cX7_bringIn 6 = .ok (.istore_n 2, 1) := by decide +kernel
theorem dX7_bringIn_7 : decode cX7_bringIn 7 = .ok (.iload_n 2, 1) := by decide +kernel
theorem dX7_bringIn_8 : decode cX7_bringIn 8 = .ok (.bipush 8, 2) := by decide +kernel
theorem dX7_bringIn_10 : decode cX7_bringIn 10 = .ok (.if_icmp .ge 16, 3) := by decide +kernel
theorem dX7_bringIn_13 : decode cX7_bringIn 13 = .ok (.aload_n 0, 1) := by decide +kernel
theorem dX7_bringIn_14 : decode cX7_bringIn 14 = .ok (.getfield 9, 3) := by decide +kernel
theorem dX7_bringIn_17 : decode cX7_bringIn 17 = .ok (.iload_n 2, 1) := by decide +kernel
theorem dX7_bringIn_18 : decode cX7_bringIn 18 = .ok (.iconst (-1), 1) := by decide +kernel
theorem dX7_bringIn_19 : decode cX7_bringIn 19 = .ok (.iastore, 1) := by decide +kernel
theorem dX7_bringIn_20 : decode cX7_bringIn 20 = .ok (.iinc 2 1, 3) := by decide +kernel
theorem dX7_bringIn_23 : decode cX7_bringIn 23 = .ok (.goto (-16), 3) := by decide +kernel
theorem dX7_bringIn_26 : decode cX7_bringIn 26 = .ok (.return_, 1) := by decide +kernel
theorem dX7_takeOut_0 : decode cX7_takeOut 0 = .ok (.aload_n 0, 1) := by decide +kernel
theorem dX7_takeOut_1 : decode cX7_takeOut 1 = .ok (.iconst (-1), 1) := by decide +kernel
theorem dX7_takeOut_2 : decode cX7_takeOut 2 = .ok (.putfield 15, 3) := by decide +kernel
theorem dX7_takeOut_5 : decode cX7_takeOut 5 = .ok (.return_, 1) := by decide +kernel
theorem dX7_has_0 : decode cX7_has 0 = .ok (.iload_n 1, 1) := by decide +kernel
theorem dX7_has_1 : decode cX7_has 1 = .ok (.ifCond .lt 21, 3) := by decide +kernel
theorem dX7_has_4 : decode cX7_has 4 = .ok (.iload_n 1, 1) := by decide +kernel
theorem dX7_has_5 : decode cX7_has 5 = .ok (.aload_n 0, 1) := by decide +kernel
theorem dX7_has_6 : decode cX7_has 6 = .ok (.getfield 15, 3) := by decide +kernel
theorem dX7_has_9 : decode cX7_has 9 = .ok (.if_icmp .ge 13, 3) := by decide +kernel
theorem dX7_has_12 : decode cX7_has 12 = .ok (.iload_n 1, 1) := by decide +kernel
theorem dX7_has_13 : decode cX7_has 13 = .ok (.bipush 8, 2) := by decide +kernel
theorem dX7_has_15 : decode cX7_has 15 = .ok (.if_icmp .ge 7, 3) := by decide +kernel
theorem dX7_has_18 : decode cX7_has 18 = .ok (.iconst 1, 1) := by decide +kernel
theorem dX7_has_19 : decode cX7_has 19 = .ok (.goto 4, 3) := by decide +kernel
theorem dX7_has_22 : decode cX7_has 22 = .ok (.iconst 0, 1) := by decide +kernel
theorem dX7_has_23 : decode cX7_has 23 = .ok (.ireturn, 1) := by decide +kernel
theorem dX7_loafIn_0 : decode cX7_loafIn 0 = .ok (.aload_n 0, 1) := by decide +kernel
theorem dX7_loafIn_1 : decode cX7_loafIn 1 = .ok (.iload_n 1, 1) := by decide +kernel
theorem dX7_loafIn_2 : decode cX7_loafIn 2 = .ok (.invokevirtual 19, 3) := by decide +kernel
theorem dX7_loafIn_5 : decode cX7_loafIn 5 = .ok (.ifCond .eq 12, 3) := by decide +kernel
theorem dX7_loafIn_8 : decode cX7_loafIn 8 = .ok (.aload_n 0, 1) := by decide +kernel
theorem dX7_loafIn_9 : decode cX7_loafIn 9 = .ok (.getfield 9, 3) := by decide +kernel
theorem dX7_loafIn_12 : decode cX7_loafIn 12 = .ok (.iload_n 1, 1) := by decide +kernel
theorem dX7_loafIn_13 : decode cX7_loafIn 13 = .ok (.iaload, 1) := by decide +kernel
theorem dX7_loafIn_14 : decode cX7_loafIn 14 = .ok (.goto 4, 3) := by decide +kernel
theorem dX7_loafIn_17 : decode cX7_loafIn 17 = .ok (.iconst (-1), 1) := by decide +kernel
theorem dX7_loafIn_18 : decode cX7_loafIn 18 = .ok (.ireturn, 1) := by decide +kernel
theorem dX7_put_0 : decode cX7_put 0 = .ok (.aload_n 0, 1) := by decide +kernel
theorem dX7_put_1 : decode cX7_put 1 = .ok (.iload_n 1, 1) := by decide +kernel
theorem dX7_put_2 : decode cX7_put 2 = .ok (.invokevirtual 19, 3) := by decide +kernel
theorem dX7_put_5 : decode cX7_put 5 = .ok (.ifCond .eq 10, 3) := by decide +kernel
theorem dX7_put_8 : decode cX7_put 8 = .ok (.aload_n 0, 1) := by decide +kernel
theorem dX7_put_9 : decode cX7_put 9 = .ok (.getfield 9, 3) := by decide +kernel
theorem dX7_put_12 : decode cX7_put 12 = .ok (.iload_n 1, 1) := by decide +kernel
theorem dX7_put_13 : decode cX7_put 13 = .ok (.iload_n 2, 1) := by decide +kernel
theorem dX7_put_14 : decode cX7_put 14 = .ok (.iastore, 1) := by decide +kernel
theorem dX7_put_15 : decode cX7_put 15 = .ok (.return_, 1) := by decide +kernel
theorem dX8_init_0 : decode cX8_init 0 = .ok (.aload_n 0, 1) := by decide +kernel
theorem dX8_init_1 : decode cX8_init 1 = .ok (.aload_n 1, 1) := by decide +kernel
theorem dX8_init_2 : decode cX8_init 2 = .ok (.iload_n 2, 1) := by decide +kernel
theorem dX8_init_3 : decode cX8_init 3 = .ok (.iload_n 3, 1) := by decide +kernel
theorem dX8_init_4 : decode cX8_init 4 = .ok (.iload 4, 2) := by decide +kernel
theorem dX8_init_6 : decode cX8_init 6 = .ok (.invokespecial 3, 3) := by decide +kernel
theorem dX8_init_9 : decode cX8_init 9 = .ok (.return_, 1) := by decide +kernel
theorem dX8_doRest_0 : decode cX8_doRest 0 = .ok (.aload_n 0, 1) := by decide +kernel
theorem dX8_doRest_1 : decode cX8_doRest 1 = .ok (.getfield 9, 3) := by decide +kernel
theorem dX8_doRest_4 : decode cX8_doRest 4 = .ok (.iconst 0, 1) := by decide +kernel
theorem dX8_doRest_5 : decode cX8_doRest 5 = .ok (.iconst 4, 1) := by decide +kernel
theorem dX8_doRest_6 : decode cX8_doRest 6 = .ok (.invokevirtual 15, 3) := by decide +kernel
theorem dX8_doRest_9 : decode cX8_doRest 9 = .ok (.aload_n 0, 1) := by decide +kernel
theorem dX8_doRest_10 : decode cX8_doRest 10 = .ok (.dup, 1) := by decide +kernel
theorem dX8_doRest_11 : decode cX8_doRest 11 = .ok (.getfield 21, 3) := by decide +kernel
theorem dX8_doRest_14 : decode cX8_doRest 14 = .ok (.iconst 1, 1) := by decide +kernel
theorem dX8_doRest_15 : decode cX8_doRest 15 = .ok (.iadd, 1) := by decide +kernel
theorem dX8_doRest_16 : decode cX8_doRest 16 = .ok (.putfield 21, 3) := by decide +kernel
theorem dX8_doRest_19 : decode cX8_doRest 19 = .ok (.aload_n 0, 1) := by decide +kernel
theorem dX8_doRest_20 : decode cX8_doRest 20 = .ok (.iload_n 1, 1) := by decide +kernel
theorem dX8_doRest_21 : decode cX8_doRest 21 = .ok (.invokespecial 25, 3) := by decide +kernel
theorem dX8_doRest_24 : decode cX8_doRest 24 = .ok (.ireturn, 1) := by decide +kernel
theorem dX8_doFold_0 : decode cX8_doFold 0 = .ok (.aload_n 0, 1) := by decide +kernel
theorem dX8_doFold_1 : decode cX8_doFold 1 = .ok (.getfield 9, 3) := by decide +kernel
theorem dX8_doFold_4 : decode cX8_doFold 4 = .ok (.iconst 1, 1) := by decide +kernel
theorem dX8_doFold_5 : decode cX8_doFold 5 = .ok (.iconst 4, 1) := by decide +kernel
theorem dX8_doFold_6 : decode cX8_doFold 6 = .ok (.invokevirtual 15, 3) := by decide +kernel
theorem dX8_doFold_9 : decode cX8_doFold 9 = .ok (.aload_n 0, 1) := by decide +kernel
theorem dX8_doFold_10 : decode cX8_doFold 10 = .ok (.invokespecial 29, 3) := by decide +kernel
theorem dX8_doFold_13 : decode cX8_doFold 13 = .ok (.aload_n 0, 1) := by decide +kernel
theorem dX8_doFold_14 : decode cX8_doFold 14 = .ok (.aload_n 0, 1) := by decide +kernel
theorem dX8_doFold_15 : decode cX8_doFold 15 = .ok (.getfield 21, 3) := by decide +kernel
theorem dX8_doFold_18 : decode cX8_doFold 18 = .ok (.iconst 1, 1) := by decide +kernel
theorem dX8_doFold_19 : decode cX8_doFold 19 = .ok (.isub, 1) := by decide +kernel
theorem dX8_doFold_20 : decode cX8_doFold 20 = .ok (.iconst 0, 1) := by decide +kernel
theorem dX8_doFold_21 : decode cX8_doFold 21 = .ok (.invokestatic 33, 3) := by decide +kernel
theorem dX8_doFold_24 : decode cX8_doFold 24 = .ok (.putfield 21, 3) := by decide +kernel
theorem dX8_doFold_27 : decode cX8_doFold 27 = .ok (.return_, 1) := by decide +kernel
theorem dX8_doBake_0 : decode cX8_doBake 0 = .ok (.aload_n 0, 1) := by decide +kernel
theorem dX8_doBake_1 : decode cX8_doBake 1 = .ok (.getfield 9, 3) := by decide +kernel
theorem dX8_doBake_4 : decode cX8_doBake 4 = .ok (.iconst 3, 1) := by decide +kernel
theorem dX8_doBake_5 : decode cX8_doBake 5 = .ok (.iconst 4, 1) := by decide +kernel
theorem dX8_doBake_6 : decode cX8_doBake 6 = .ok (.invokevirtual 15, 3) := by decide +kernel
theorem dX8_doBake_9 : decode cX8_doBake 9 = .ok (.aload_n 0, 1) := by decide +kernel
theorem dX8_doBake_10 : decode cX8_doBake 10 = .ok (.iload_n 1, 1) := by decide +kernel
theorem dX8_doBake_11 : decode cX8_doBake 11 = .ok (.invokespecial 39, 3) := by decide +kernel
theorem dX8_doBake_14 : decode cX8_doBake 14 = .ok (.istore_n 2, 1) := by decide +kernel
theorem dX8_doBake_15 : decode cX8_doBake 15 = .ok (.iload_n 2, 1) := by decide +kernel
theorem dX8_doBake_16 : decode cX8_doBake 16 = .ok (.ifCond .ne 11, 3) := by decide +kernel
theorem dX8_doBake_19 : decode cX8_doBake 19 = .ok (.aload_n 0, 1) := by decide +kernel
theorem dX8_doBake_20 : decode cX8_doBake 20 = .ok (.getfield 21, 3) := by decide +kernel
theorem dX8_doBake_23 : decode cX8_doBake 23 = .ok (.iconst 5, 1) := by decide +kernel
theorem dX8_doBake_24 : decode cX8_doBake 24 = .ok (.if_icmp .le 7, 3) := by decide +kernel
theorem dX8_doBake_27 : decode cX8_doBake 27 = .ok (.iconst 1, 1) := by decide +kernel
theorem dX8_doBake_28 : decode cX8_doBake 28 = .ok (.goto 4, 3) := by decide +kernel
theorem dX8_doBake_31 : decode cX8_doBake 31 = .ok (.iconst 0, 1) := by decide +kernel
theorem dX8_doBake_32 : decode cX8_doBake 32 = .ok (.ireturn, 1) := by decide +kernel
theorem dX8_askWorth_0 : decode cX8_askWorth 0 = .ok (.aload_n 0, 1) := by decide +kernel
theorem dX8_askWorth_1 : decode cX8_askWorth 1 = .ok (.getfield 9, 3) := by decide +kernel
theorem dX8_askWorth_4 : decode cX8_askWorth 4 = .ok (.iconst 4, 1) := by decide +kernel
theorem dX8_askWorth_5 : decode cX8_askWorth 5 = .ok (.iconst 4, 1) := by decide +kernel
theorem dX8_askWorth_6 : decode cX8_askWorth 6 = .ok (.invokevirtual 15, 3) := by decide +kernel
theorem dX8_askWorth_9 : decode cX8_askWorth 9 = .ok (.aload_n 0, 1) := by decide +kernel
theorem dX8_askWorth_10 : decode cX8_askWorth 10 = .ok (.invokespecial 43, 3) := by decide +kernel
theorem dX8_askWorth_13 : decode cX8_askWorth 13 = .ok (.aload_n 0, 1) := by decide +kernel
theorem dX8_askWorth_14 : decode cX8_askWorth 14 = .ok (.getfield 21, 3) := by decide +kernel
theorem dX8_askWorth_17 : decode cX8_askWorth 17 = .ok (.iadd, 1) := by decide +kernel
theorem dX8_askWorth_18 : decode cX8_askWorth 18 = .ok (.ireturn, 1) := by decide +kernel
theorem dX9_init_0 : decode cX9_init 0 = .ok (.aload_n 0, 1) := by decide +kernel
theorem dX9_init_1 : decode cX9_init 1 = .ok (.aload_n 1, 1) := by decide +kernel
theorem dX9_init_2 : decode cX9_init 2 = .ok (.iload_n 2, 1) := by decide +kernel
theorem dX9_init_3 : decode cX9_init 3 = .ok (.iload_n 3, 1) := by decide +kernel
theorem dX9_init_4 : decode cX9_init 4 = .ok (.iload 4, 2) := by decide +kernel
theorem dX9_init_6 : decode cX9_init 6 = .ok (.invokespecial 3, 3) := by decide +kernel
theorem dX9_init_9 : decode cX9_init 9 = .ok (.return_, 1) := by decide +kernel
theorem dX9_doFold_0 : decode cX9_doFold 0 = .ok (.aload_n 0, 1) := by decide +kernel
theorem dX9_doFold_1 : decode cX9_doFold 1 = .ok (.getfield 9, 3) := by decide +kernel
theorem dX9_doFold_4 : decode cX9_doFold 4 = .ok (.iconst 1, 1) := by decide +kernel
theorem dX9_doFold_5 : decode cX9_doFold 5 = .ok (.iconst 3, 1) := by decide +kernel
theorem dX9_doFold_6 : decode cX9_doFold 6 = .ok (.invokevirtual 15, 3) := by decide +kernel
theorem dX9_doFold_9 : decode cX9_doFold 9 = .ok (.aload_n 0, 1) := by decide +kernel
theorem dX9_doFold_10 : decode cX9_doFold 10 = .ok (.invokespecial 21, 3) := by decide +kernel
theorem dX9_doFold_13 : decode cX9_doFold 13 = .ok (.aload_n 0, 1) := by decide +kernel
theorem dX9_doFold_14 : decode cX9_doFold 14 = .ok (.invokespecial 21, 3) := by decide +kernel
theorem dX9_doFold_17 : decode cX9_doFold 17 = .ok (.return_, 1) := by decide +kernel
theorem dX9_doBake_0 : decode cX9_doBake 0 = .ok (.aload_n 0, 1) := by decide +kernel
theorem dX9_doBake_1 : decode cX9_doBake 1 = .ok (.getfield 9, 3) := by decide +kernel
theorem dX9_doBake_4 : decode cX9_doBake 4 = .ok (.iconst 3, 1) := by decide +kernel
theorem dX9_doBake_5 : decode cX9_doBake 5 = .ok (.iconst 3, 1) := by decide +kernel
theorem dX9_doBake_6 : decode cX9_doBake 6 = .ok (.invokevirtual 15, 3) := by decide +kernel
theorem dX9_doBake_9 : decode cX9_doBake 9 = .ok (.aload_n 0, 1) := by decide +kernel
theorem dX9_doBake_10 : decode cX9_doBake 10 = .ok (.iload_n 1, 1) := by decide +kernel
theorem dX9_doBake_11 : decode cX9_doBake 11 = .ok (.invokespecial 25, 3) := by decide +kernel
theorem dX9_doBake_14 : decode cX9_doBake 14 = .ok (.ifCond .eq 16, 3) := by decide +kernel
theorem dX9_doBake_17 : decode cX9_doBake 17 = .ok (.aload_n 0, 1) := by decide +kernel
theorem dX9_doBake_18 : decode cX9_doBake 18 = .ok (.getfield 29, 3) := by decide +kernel
theorem dX9_doBake_21 : decode cX9_doBake 21 = .ok (.bipush 60, 2) := by decide +kernel
theorem dX9_doBake_23 : decode cX9_doBake 23 = .ok (.if_icmp .gt 7, 3) := by decide +kernel
theorem dX9_doBake_26 : decode cX9_doBake 26 = .ok (.iconst 1, 1) := by decide +kernel
theorem dX9_doBake_27 : decode cX9_doBake 27 = .ok (.goto 4, 3) := by decide +kernel
theorem dX9_doBake_30 : decode cX9_doBake 30 = .ok (.iconst 0, 1) := by decide +kernel
theorem dX9_doBake_31 : decode cX9_doBake 31 = .ok (.ireturn, 1) := by decide +kernel
